/-! 09.fill: how a table comes to its times -/
theorem zlt (a b : Int) : a < b ∨ b ≤ a := by omega
def subL : List (Option Value) → List (Option Value) → Prop
  | [], _ => True
  | none :: a, _ :: b => subL a b
  | some v :: a, some u :: b => v = u ∧ subL a b
  | _ :: _, _ => False
theorem subL_at : ∀ (a b : List (Option Value)), subL a b → ∀ (i : Nat) (v : Value), a[i]? = some (some v) → b[i]? = some (some v) := by
  intro a
  induction a with
  | nil => intro b h i v hi; cases hi
  | cons x a ih =>
    intro b h i v hi
    cases b with
    | nil => cases x <;> exact absurd h id
    | cons z b =>
      cases x with
      | none =>
        cases i with
        | zero => cases hi
        | succ i => exact ih b h i v hi
      | some u =>
        cases z with
        | none => exact absurd h id
        | some t =>
          cases i with
          | zero => cases hi; rw [h.1]; rfl
          | succ i => exact ih b h.2 i v hi
theorem J_sub {y : MethodName} {cc : ByteArray} {nL : Nat} {rt : Option FieldType} {d tc ts : Nat} {K : Option Value → pS → Prop} {c0 s0 : Nat} {S : pS} {pc : Nat} {L L1 : List (Option Value)} {st : List Value} (h : subL L1 L) (k : Jd y cc nL rt d tc ts K c0 s0 S pc L1 st) : Jd y cc nL rt d tc ts K c0 s0 S pc L st :=
  fun p l e R s m args below meth c D q A Q C hR H locs ls hP hS hl => k p l e R s m args below meth c D q A Q C hR H locs ls hP hS ⟨hl.1, hl.2.1, fun i v hi => hl.2.2 i v (subL_at L1 L h i v hi)⟩
def IB (E ti ps top w : Int) (k : Nat) (cur : Int) (g : Int → Int) : Prop := ∀ tw o f b, vd E ps top tw o f → (b = 0 ∨ b = 1) → (ixF ps top w tw o f b < cur → tB E ti ps (k + 1) (g (ixF ps top w tw o f b)) tw o f b) ∧ (cur ≤ ixF ps top w tw o f b → tB E ti ps k (g (ixF ps top w tw o f b)) tw o f b)
def MO (E ti ps top w : Int) (k : Nat) (cur : Int) (M : Prop) : Prop := ¬ M → ∀ tw o f b, vd E ps top tw o f → (b = 0 ∨ b = 1) → ixF ps top w tw o f b < cur → fc E ti ps (k + 1) tw o f b → fc E ti ps k tw o f b
def aB (E ti ps top w : Int) (k : Nat) (g : Int → Int) : Prop := ∀ tw o f b, vd E ps top tw o f → (b = 0 ∨ b = 1) → tB E ti ps k (g (ixF ps top w tw o f b)) tw o f b
theorem tB_up {E ti ps : Int} {k : Nat} {v tw o f b : Int} (h : tB E ti ps k v tw o f b) (hv : v ≠ 9 ∨ (v = 9 ∧ ¬ fc E ti ps (k + 1) tw o f b)) (hk : k ≤ 7) : tB E ti ps (k + 1) v tw o f b := by
  obtain ⟨h1, h2, h3⟩ := h
  refine ⟨h1, by omega, fun j hj => ?_⟩
  rcases Nat.lt_or_ge j (k + 1) with q | q
  · exact h3 j (by omega)
  · have e : j = k + 1 := by omega
    subst e
    rcases hv with hv | ⟨hv, hn⟩
    · exact ⟨fun _ => fc_succ k _ _ _ _ ((h3 k (Nat.le_refl k)).mp (by omega)), fun _ => by omega⟩
    · exact ⟨fun z => by omega, fun z => absurd z hn⟩
theorem tB_set {E ti ps : Int} {k : Nat} {tw o f b : Int} (h : tB E ti ps k 9 tw o f b) (hk : k ≤ 7) {v : Int} (hv : (v = (k : Int) + 1 ∧ fc E ti ps (k + 1) tw o f b) ∨ (v = 9 ∧ ¬ fc E ti ps (k + 1) tw o f b)) : tB E ti ps (k + 1) v tw o f b := by
  rcases hv with ⟨rfl, hf⟩ | ⟨rfl, hf⟩
  · obtain ⟨h1, h2, h3⟩ := h
    refine ⟨by omega, Or.inl (by omega), fun j hj => ?_⟩
    rcases Nat.lt_or_ge j (k + 1) with q | q
    · have := h3 j (by omega)
      exact ⟨fun z => by omega, fun z => by have := this.mpr z; omega⟩
    · have e : j = k + 1 := by omega
      subst e
      exact ⟨fun _ => hf, fun _ => by omega⟩
  · exact tB_up h (Or.inr ⟨rfl, hf⟩) hk
theorem fc_end {E ti ps : Int} {k : Nat} {o f b : Int} (hE : 1 ≤ E) : ¬ fc E ti ps k (2 * E) o f b := by
  intro h
  cases k with
  | zero => have h : 2 * E ≤ 0 := h; omega
  | succ k => rcases h with h | ⟨h, -⟩ <;> omega
theorem fc_0 {E ti ps : Int} {k : Nat} {o f b : Int} : fc E ti ps k 0 o f b := by
  cases k with
  | zero => exact Int.le_refl 0
  | succ k => exact Or.inl (Int.le_refl 0)
theorem IB_start {E ti ps top : Int} {w n k : Nat} {g : Int → Int} (h : tbN E ti ps top w n) (hk : k ≤ 7) (ha : aB E ti ps top w k g) : IB E ti ps top w k (2 * w) g := by
  intro tw o f b hv hb
  refine ⟨fun hlt => ?_, fun _ => ha tw o f b hv hb⟩
  obtain ⟨s1, s2⟩ := sp_b h hv
  have h0 : tw = 0 := by
    rcases Classical.em (tw = 0) with q | q
    · exact q
    · exfalso
      have h1 : 2 * (w : Int) ≤ (2 * tw + b) * w := Int.mul_le_mul_of_nonneg_right (by have := hv.1; omega) (by omega)
      unfold ixF at hlt
      omega
  subst h0
  refine tB_up (ha 0 o f b hv hb) (Or.inl ?_) hk
  have := ((ha 0 o f b hv hb).2.2 0 (Nat.zero_le k)).mpr fc_0
  omega
theorem IB_fc {E ti ps top : Int} {w k : Nat} {cur : Int} {g : Int → Int} (h : IB E ti ps top w k cur g) {tw o f b : Int} (hv : vd E ps top tw o f) (hb : b = 0 ∨ b = 1) : PL ps top w g k tw o f b ↔ fc E ti ps k tw o f b := by
  unfold PL
  rcases zlt (ixF ps top w tw o f b) cur with q | q
  · exact ((h tw o f b hv hb).1 q).2.2 k (by omega)
  · exact ((h tw o f b hv hb).2 q).2.2 k (Nat.le_refl k)
theorem stP_1 {E ti ps : Int} {P : qP} {tw o f : Int} (h : 0 < tw ∧ tw < 2 * E) : stP E ti ps P tw o f 1 ↔ bidP ti ps P tw o f :=
  ⟨fun z => z.elim (fun q => by omega) (fun q => q.2.1 rfl), fun z => Or.inr ⟨h.2, fun _ => z, fun q => by omega⟩⟩
theorem stP_0 {E ti ps : Int} {P : qP} {tw o f : Int} (h : 0 < tw ∧ tw < 2 * E) : stP E ti ps P tw o f 0 ↔ ansP ti ps P tw o f :=
  ⟨fun z => z.elim (fun q => by omega) (fun q => q.2.2 rfl), fun z => Or.inr ⟨h.2, fun q => by omega, fun _ => z⟩⟩
theorem IB_st {E ti ps top : Int} {w n k : Nat} {cur : Int} {g : Int → Int} (hn : tbN E ti ps top w n) (h : IB E ti ps top w k cur g) {tw o f b : Int} (hv : vd E ps top tw o f) : stP E ti ps (PL ps top w g k) tw o f b ↔ fc E ti ps (k + 1) tw o f b :=
  stP_c hn.2.2.1 (fun _ _ _ _ v e => IB_fc h v e) hv
theorem IB_skip {E ti ps top : Int} {w n k : Nat} {cur r x : Int} {g : Int → Int} {M : Prop} (hn : tbN E ti ps top w n) (hk : k ≤ 7) (hr : 0 ≤ r ∧ r < 4 * E + 2) (hx : 0 ≤ x ∧ x < w) (hc : cur = r * w + x) (h : IB E ti ps top w k cur g) (hm : MO E ti ps top w k cur M) (h9 : ¬ g cur = 9) : IB E ti ps top w k (cur + 1) g ∧ MO E ti ps top w k (cur + 1) M := by
  refine ⟨fun tw o f b hv hb => ⟨fun hlt => ?_, fun hge => (h tw o f b hv hb).2 (by omega)⟩, fun hM tw o f b hv hb hlt hf => ?_⟩
  · rcases zlt (ixF ps top w tw o f b) cur with q | q
    · exact (h tw o f b hv hb).1 q
    · have e : ixF ps top w tw o f b = cur := by omega
      have h1 := (h tw o f b hv hb).2 q
      rw [e] at h1 ⊢
      exact tB_up h1 (Or.inl h9) hk
  · rcases zlt (ixF ps top w tw o f b) cur with q | q
    · exact hm hM tw o f b hv hb q hf
    · have e : ixF ps top w tw o f b = cur := by omega
      have h1 := (h tw o f b hv hb).2 q
      rw [e] at h1
      exact (h1.2.2 k (Nat.le_refl k)).mp (by have := h1.2.1; omega)
theorem IB_set {E ti ps top : Int} {w n k : Nat} {cur r x v : Int} {g : Int → Int} {M F : Prop} (hn : tbN E ti ps top w n) (hk : k ≤ 7) (hr : 0 ≤ r ∧ r < 4 * E + 2) (hx : 0 ≤ x ∧ x < w) (hc : cur = r * w + x) (h : IB E ti ps top w k cur g) (hm : MO E ti ps top w k cur M) (h9 : g cur = 9) (hF : F ↔ fc E ti ps (k + 1) (r / 2) (ogF ps top x) (fgF ps top x) (r % 2)) (hv : (v = (k : Int) + 1 ∧ F) ∨ (v = 9 ∧ ¬ F)) : IB E ti ps top w k (cur + 1) (uZ g cur v) ∧ MO E ti ps top w k (cur + 1) (M ∨ F) := by
  obtain ⟨s1, s2⟩ := st_of hn hr hx
  have hb2 : r % 2 = 0 ∨ r % 2 = 1 := by omega
  have key : ∀ tw o f b, vd E ps top tw o f → (b = 0 ∨ b = 1) → ixF ps top w tw o f b = cur → tw = r / 2 ∧ o = ogF ps top x ∧ f = fgF ps top x ∧ b = r % 2 := fun tw o f b hv hb he => ix_inj hn hv hb s1 hb2 (by rw [he, s2, hc])
  refine ⟨fun tw o f b hv' hb => ⟨fun hlt => ?_, fun hge => ?_⟩, fun hM tw o f b hv' hb hlt hf => ?_⟩
  · rcases zlt (ixF ps top w tw o f b) cur with q | q
    · have e : uZ g cur v (ixF ps top w tw o f b) = g (ixF ps top w tw o f b) := if_neg (by omega)
      rw [e]
      exact (h tw o f b hv' hb).1 q
    · have e : ixF ps top w tw o f b = cur := by omega
      have h1 := (h tw o f b hv' hb).2 q
      obtain ⟨k1, k2, k3, k4⟩ := key tw o f b hv' hb e
      rw [e, h9] at h1
      have e2 : uZ g cur v (ixF ps top w tw o f b) = v := by rw [e]; exact if_pos rfl
      rw [e2]
      refine tB_set h1 hk ?_
      rw [k1, k2, k3, k4, ← hF]
      exact hv
  · have e : uZ g cur v (ixF ps top w tw o f b) = g (ixF ps top w tw o f b) := if_neg (by omega)
    rw [e]
    exact (h tw o f b hv' hb).2 (by omega)
  · rcases zlt (ixF ps top w tw o f b) cur with q | q
    · exact hm (fun z => hM (Or.inl z)) tw o f b hv' hb q hf
    · obtain ⟨k1, k2, k3, k4⟩ := key tw o f b hv' hb (by omega)
      rw [k1, k2, k3, k4, ← hF] at hf
      exact absurd (Or.inr hf) hM
theorem ix_end {E ti ps top tw o f b : Int} {w n : Nat} (hn : tbN E ti ps top w n) (hv : vd E ps top tw o f) (hb : b = 0 ∨ b = 1) (h : 4 * E * w ≤ ixF ps top w tw o f b) : tw = 2 * E := by
  obtain ⟨s1, s2⟩ := sp_b hn hv
  rcases Classical.em (tw = 2 * E) with q | q
  · exact q
  · exfalso
    have h1 := (row_b (r := 2 * tw + b) (m := 4 * E) (by have := hv.2.1; omega) (by have := hv.1; omega) s1 s2).2
    unfold ixF at h
    omega
theorem IB_end {E ti ps top : Int} {w n k : Nat} {g : Int → Int} {M : Prop} (hn : tbN E ti ps top w n) (hk : k ≤ 7) (h : IB E ti ps top w k (4 * E * w) g) (hm : MO E ti ps top w k (4 * E * w) M) : aB E ti ps top w (k + 1) g ∧ (¬ M → ∀ tw o f b, vd E ps top tw o f → (b = 0 ∨ b = 1) → fc E ti ps (k + 1) tw o f b → fc E ti ps k tw o f b) := by
  refine ⟨fun tw o f b hv hb => ?_, fun hM tw o f b hv hb hf => ?_⟩
  · rcases zlt (ixF ps top w tw o f b) (4 * E * w) with q | q
    · exact (h tw o f b hv hb).1 q
    · have e := ix_end hn hv hb q
      have h1 := (h tw o f b hv hb).2 q
      subst e
      refine tB_up h1 (Or.inr ⟨?_, fc_end hn.1.1⟩) hk
      rcases h1.2.1 with z | z
      · exact absurd ((h1.2.2 k (Nat.le_refl k)).mp z) (fc_end hn.1.1)
      · exact z
  · rcases zlt (ixF ps top w tw o f b) (4 * E * w) with q | q
    · exact hm hM tw o f b hv hb q hf
    · have e := ix_end hn hv hb q
      subst e
      exact absurd hf (fc_end hn.1.1)
/-- a table of some rounds, where one more forces nothing more, is one of 8 -/
theorem aB_stab {E ti ps top : Int} {w n k : Nat} {g : Int → Int} (hn : tbN E ti ps top w n) (h : aB E ti ps top w (k + 1) g) (hs : ∀ tw o f b, vd E ps top tw o f → (b = 0 ∨ b = 1) → fc E ti ps (k + 1) tw o f b → fc E ti ps k tw o f b) (hk : k ≤ 7) : aB E ti ps top w 8 g := by
  intro tw o f b hv hb
  obtain ⟨h1, h2, h3⟩ := h tw o f b hv hb
  refine ⟨h1, by omega, fun j hj => ?_⟩
  rcases Nat.lt_or_ge j (k + 2) with q | q
  · exact h3 j (by omega)
  · constructor
    · intro z
      have h4 : g (ixF ps top w tw o f b) ≤ ((k + 1 : Nat) : Int) := by omega
      exact fc_mono (by omega) ((h3 (k + 1) (Nat.le_refl _)).mp h4)
    · intro z
      have h4 := fc_stab hn.2.2.1 hs j (by omega) tw o f b hv hb z
      have h5 := (h3 k (by omega)).mpr h4
      omega
def KLR (S : pS) (E ti ps top : Int) (w n tm k : Nat) : Option Value → pS → Prop := fun r S' => ∃ (M : Prop) (g : Int → Int), r = some (.int (iI (bC M))) ∧ S' = pu S tm (aI n g) ∧ (∀ x, 0 ≤ g x ∧ g x ≤ 9) ∧ aB E ti ps top w (k + 1) g ∧ (¬ M → ∀ tw o f b, vd E ps top tw o f → (b = 0 ∨ b = 1) → fc E ti ps (k + 1) tw o f b → fc E ti ps k tw o f b)
theorem uZ_b {g : Int → Int} (h : ∀ x, 0 ≤ g x ∧ g x ≤ 9) {z v : Int} (hv : 0 ≤ v ∧ v ≤ 9) : ∀ x, 0 ≤ uZ g z v x ∧ uZ g z v x ≤ 9 := fun x => by
  unfold uZ
  split
  · exact hv
  · exact h x
theorem TbS_pu {S : pS} {t ow fo tm w n : Nat} {E ti ps top : Int} {tg g : Int → Int} (T : TbS S t E ti ps top ow fo tm w n tg) (h1 : ow ≠ tm) (h2 : fo ≠ tm) (hg : ∀ x, 0 ≤ g x ∧ g x ≤ 9) : TbS (pu S tm (aI n g)) t E ti ps top ow fo tm w n g :=
  ⟨(pu_ne _ _ (ne_OI T.1 T.2.2.2.1)).trans T.1, (pu_ne _ _ h1).trans T.2.1, (pu_ne _ _ h2).trans T.2.2.1, pu_self _ _ _, hg, T.2.2.2.2.2⟩
theorem MO_start {E ti ps top : Int} {w n k : Nat} (h : tbN E ti ps top w n) : MO E ti ps top w k (2 * w) False := by
  intro _ tw o f b hv hb hlt _
  obtain ⟨s1, s2⟩ := sp_b h hv
  have h0 : tw = 0 := by
    rcases Classical.em (tw = 0) with q | q
    · exact q
    · exfalso
      have h1 : 2 * (w : Int) ≤ (2 * tw + b) * w := Int.mul_le_mul_of_nonneg_right (by have := hv.1; omega) (by omega)
      unfold ixF at hlt
      omega
  subst h0
  exact fc_0
set_option maxHeartbeats 2000000 in
set_option maxRecDepth 20000 in
theorem c_X8_learnRounds {S : pS} {t ow fo tm w n : Nat} {E ti ps top : Int} {tg : Int → Int} (T : TbS S t E ti ps top ow fo tm w n tg) (d1 : ow ≠ tm) (d2 : fo ≠ tm) {k : Nat} (hk : k ≤ 7) (ha : aB E ti ps top w k tg) : Ct yX8_learnRounds cX8_learnRounds 7 (Option.some FieldType.boolean) 3 0 0 [.ref t, .int (iI ((k : Int) + 1))] S (KLR S E ti ps top w n tm k) := by
  obtain ⟨n1, n2, n3, n4, n5, n6, n7⟩ := T.2.2.2.2.2
  obtain ⟨w1, w2, w3, w4, w5, w6⟩ := tbN_w T.2.2.2.2.2
  have hg := T.2.2.2.2.1
  refine Ct.ofJ (by decide +kernel) (Nat.le_of_ble_eq_true rfl) ?_
  refine J_L (L1 := [some (.ref t), some (.int (iI ((k : Int) + 1))), none, none, none, none, none]) rfl ?_
  have LPo : ∀ (n9 : Nat) (r : Int) (g : Int → Int) (M : Prop), 2 ≤ r → r ≤ 4 * E → (∀ x, 0 ≤ g x ∧ g x ≤ 9) → IB E ti ps top w k (r * w) g → MO E ti ps top w k (r * w) M → 4 * E - r < n9 → Jd yX8_learnRounds cX8_learnRounds 7 (Option.some FieldType.boolean) 3 0 0 (KLR S E ti ps top w n tm k) 0 0 (pu S tm (aI n g)) 4 [some (.ref t), some (.int (iI ((k : Int) + 1))), some (.int (iI (bC M))), some (.int (iI r)), none, none, none] [] := by
    intro n9
    induction n9 with
    | zero => intro r g M r1 r2 hg2 hI hM hn; omega
    | succ n9 iho =>
      intro r g M r1 r2 hg2 hI hM hn
      have T2 := TbS_pu T d1 d2 hg2
      have LPi : r < 4 * E → ∀ (n8 : Nat) (x : Int) (g : Int → Int) (M : Prop), 0 ≤ x → x ≤ w → (∀ x, 0 ≤ g x ∧ g x ≤ 9) → IB E ti ps top w k (r * w + x) g → MO E ti ps top w k (r * w + x) M → w - x < n8 → Jd yX8_learnRounds cX8_learnRounds 7 (Option.some FieldType.boolean) 3 0 0 (KLR S E ti ps top w n tm k) 0 0 (pu S tm (aI n g)) 17 [some (.ref t), some (.int (iI ((k : Int) + 1))), some (.int (iI (bC M))), some (.int (iI r)), some (.int (iI x)), none, none] [] := by
        intro r3 n8
        induction n8 with
        | zero => intro x g M x1 x2 hg2 hI hM hn8; omega
        | succ n8 ihi =>
          intro x g M x1 x2 hg2 hI hM hn8
          have T2 := TbS_pu T d1 d2 hg2
          refine J_iload (pc1 := 19) rfl dX8_learnRounds_17 rfl ?_
          refine J_aload_n (pc1 := 20) rfl (i := 0) rfl dX8_learnRounds_19 rfl ?_
          refine J_get (pc1 := 23) (j := 4) inUX8 (ci := 8) rfl (by decide) lf_X8_31 dX8_learnRounds_20 rfl T2.1 rfl ?_
          refine J_alenI (pc1 := 24) dX8_learnRounds_23 rfl T2.2.1 ?_
          refine J_icmp_ge (pc1 := 27) (tgt := 170) (by omega) (by omega) (by omega) (by omega) dX8_learnRounds_24 rfl rfl (fun hc1 => ?_) (fun hc1 => ?_)
          · refine J_iinc (pc1 := 173) (L1 := [some (.ref t), some (.int (iI ((k : Int) + 1))), some (.int (iI (bC M))), some (.int (iI (r + 1))), some (.int (iI x)), none, none]) dX8_learnRounds_170 rfl rfl (by decide) rfl rfl ?_
            refine J_goto (tgt := 4) dX8_learnRounds_173 rfl ?_
            have e9 : r * (w : Int) + x = (r + 1) * w := by rw [Int.add_mul, Int.one_mul]; omega
            rw [e9] at hI hM
            refine J_sub (L1 := [some (.ref t), some (.int (iI ((k : Int) + 1))), some (.int (iI (bC M))), some (.int (iI (r + 1))), none, none, none]) ⟨rfl, rfl, rfl, rfl, trivial⟩ ?_
            exact iho (r + 1) g M (by omega) (by omega) hg2 hI hM (by omega)
          · refine J_iload (pc1 := 29) rfl dX8_learnRounds_27 rfl ?_
            refine J_aload_n (pc1 := 30) rfl (i := 0) rfl dX8_learnRounds_29 rfl ?_
            refine J_get (pc1 := 33) (j := 5) inUX8 (ci := 8) rfl (by decide) lf_X8_35 dX8_learnRounds_30 rfl T2.1 rfl ?_
            refine J_alenI (pc1 := 34) dX8_learnRounds_33 rfl T2.2.2.1 ?_
            refine J_icmp_ge (pc1 := 37) (tgt := 170) (by omega) (by omega) (by omega) (by omega) dX8_learnRounds_34 rfl rfl (fun hc2 => ?_) (fun hc2 => ?_)
            · omega
            · refine J_iload_n (pc1 := 38) rfl (i := 3) rfl dX8_learnRounds_37 rfl ?_
              refine J_aload_n (pc1 := 39) rfl (i := 0) rfl dX8_learnRounds_38 rfl ?_
              refine J_get (pc1 := 42) (j := 4) inUX8 (ci := 8) rfl (by decide) lf_X8_31 dX8_learnRounds_39 rfl T2.1 rfl ?_
              refine J_alenI (pc1 := 43) dX8_learnRounds_42 rfl T2.2.1 ?_
              refine J_imul (pc1 := 44) dX8_learnRounds_43 rfl ?_
              refine J_iload (pc1 := 46) rfl dX8_learnRounds_44 rfl ?_
              refine J_iadd (pc1 := 47) dX8_learnRounds_46 rfl ?_
              refine J_nm (fun z11 hz11 => ?_)
              obtain ⟨s1, s2⟩ := st_of T.2.2.2.2.2 (r := r) (x := x) (by omega) (by omega)
              have hb9 := row_b (r := r) (s := x) (w := (w : Int)) (m := 4 * E + 2) (by omega) (by omega) (by omega) (by omega)
              rw [← n7, ← hz11] at hb9
              have hg9 := hg2 z11
              rw [← hz11] at hI hM
              refine J_istore (pc1 := 49) (L1 := [some (.ref t), some (.int (iI ((k : Int) + 1))), some (.int (iI (bC M))), some (.int (iI r)), some (.int (iI x)), some (.int (iI z11)), none]) dX8_learnRounds_47 rfl (by decide) rfl rfl ?_
              refine J_iload (pc1 := 51) rfl dX8_learnRounds_49 rfl ?_
              refine J_aload_n (pc1 := 52) rfl (i := 0) rfl dX8_learnRounds_51 rfl ?_
              refine J_get (pc1 := 55) (j := 6) inUX8 (ci := 8) rfl (by decide) lf_X8_38 dX8_learnRounds_52 rfl T2.1 rfl ?_
              refine J_alenI (pc1 := 56) dX8_learnRounds_55 rfl T2.2.2.2.1 ?_
              refine J_icmp_ge (pc1 := 59) (tgt := 164) (by omega) (by omega) (by omega) (by omega) dX8_learnRounds_56 rfl rfl (fun hc3 => ?_) (fun hc3 => ?_)
              · omega
              · refine J_aload_n (pc1 := 60) rfl (i := 0) rfl dX8_learnRounds_59 rfl ?_
                refine J_get (pc1 := 63) (j := 6) inUX8 (ci := 8) rfl (by decide) lf_X8_38 dX8_learnRounds_60 rfl T2.1 rfl ?_
                refine J_iload (pc1 := 65) rfl dX8_learnRounds_63 rfl ?_
                refine J_iald (pc1 := 66) dX8_learnRounds_65 rfl T2.2.2.2.1 (by omega) (by omega) (by omega) ?_
                refine J_bipush (pc1 := 68) (by decide) dX8_learnRounds_66 rfl ?_
                refine J_icmp_ne (pc1 := 71) (tgt := 164) (by omega) (by omega) (by decide) (by decide) dX8_learnRounds_68 rfl rfl (fun hc4 => ?_) (fun hc4 => ?_)
                · refine J_iinc (pc1 := 167) (L1 := [some (.ref t), some (.int (iI ((k : Int) + 1))), some (.int (iI (bC M))), some (.int (iI r)), some (.int (iI (x + 1))), some (.int (iI z11)), none]) dX8_learnRounds_164 rfl rfl (by decide) rfl rfl ?_
                  refine J_goto (tgt := 17) dX8_learnRounds_167 rfl ?_
                  refine J_sub (L1 := [some (.ref t), some (.int (iI ((k : Int) + 1))), some (.int (iI (bC M))), some (.int (iI r)), some (.int (iI (x + 1))), none, none]) ⟨rfl, rfl, rfl, rfl, rfl, trivial⟩ ?_
                  obtain ⟨I1, I2⟩ := IB_skip T.2.2.2.2.2 (by omega) (r := r) (x := x) (by omega) (by omega) hz11 hI hM (by assumption)
                  rw [hz11, Int.add_assoc] at I1 I2
                  exact ihi (x + 1) g M (by omega) (by omega) hg2 I1 I2 (by omega)
                · refine J_iload_n (pc1 := 72) rfl (i := 3) rfl dX8_learnRounds_71 rfl ?_
                  refine J_iconst (pc1 := 73) dX8_learnRounds_72 rfl ?_
                  refine J_irem (pc1 := 74) (by omega) (by omega) (by omega) (by omega) dX8_learnRounds_73 rfl ?_
                  refine J_iconst (pc1 := 75) dX8_learnRounds_74 rfl ?_
                  refine J_icmp_ne (pc1 := 78) (tgt := 105) (by omega) (by omega) (by decide) (by decide) dX8_learnRounds_75 rfl rfl (fun hc5 => ?_) (fun hc5 => ?_)
                  · refine J_aload_n (pc1 := 106) rfl (i := 0) rfl dX8_learnRounds_105 rfl ?_
                    refine J_iload_n (pc1 := 107) rfl (i := 1) rfl dX8_learnRounds_106 rfl ?_
                    refine J_iconst (pc1 := 108) dX8_learnRounds_107 rfl ?_
                    refine J_isub (pc1 := 109) dX8_learnRounds_108 rfl ?_
                    refine J_nm (fun z12 hz12 => ?_)
                    obtain rfl : z12 = (k : Int) := by omega
                    refine J_iload_n (pc1 := 110) rfl (i := 3) rfl dX8_learnRounds_109 rfl ?_
                    refine J_iconst (pc1 := 111) dX8_learnRounds_110 rfl ?_
                    refine J_idiv (pc1 := 112) (by omega) (by omega) (by omega) (by omega) dX8_learnRounds_111 rfl ?_
                    refine J_aload_n (pc1 := 113) rfl (i := 0) rfl dX8_learnRounds_112 rfl ?_
                    refine J_get (pc1 := 116) (j := 4) inUX8 (ci := 8) rfl (by decide) lf_X8_31 dX8_learnRounds_113 rfl T2.1 rfl ?_
                    refine J_iload (pc1 := 118) rfl dX8_learnRounds_116 rfl ?_
                    refine J_iald (pc1 := 119) dX8_learnRounds_118 rfl T2.2.1 (by omega) (by omega) (by omega) ?_
                    refine J_aload_n (pc1 := 120) rfl (i := 0) rfl dX8_learnRounds_119 rfl ?_
                    refine J_get (pc1 := 123) (j := 5) inUX8 (ci := 8) rfl (by decide) lf_X8_35 dX8_learnRounds_120 rfl T2.1 rfl ?_
                    refine J_iload (pc1 := 125) rfl dX8_learnRounds_123 rfl ?_
                    refine J_iald (pc1 := 126) dX8_learnRounds_125 rfl T2.2.2.1 (by omega) (by omega) (by omega) ?_
                    have hq : ansP ti ps (PL ps top w g k) (r / 2) (ogF ps top x) (fgF ps top x) ↔ fc E ti ps (k + 1) (r / 2) (ogF ps top x) (fgF ps top x) (r % 2) := by
                      rw [show r % 2 = 0 by omega, ← stP_0 (E := E) (by omega)]
                      exact IB_st T.2.2.2.2.2 hI s1
                    refine J_callVI (pc1 := 129) (As := [.int (iI (k : Int)), .int (iI (r / 2)), .int (iI (ogF ps top x)), .int (iI (fgF ps top x))]) gv_X8_49 yv_X8_answerForces rfl (c_X8_answerForces T2 s1 (by omega) (by omega)) dX8_learnRounds_126 rfl T2.1 rfl rfl (by omega) (by decide) (Nat.zero_le _) (Nat.zero_le _) (Nat.le_of_ble_eq_true rfl) ?_
                    rw [bC_c hq]
                    refine J_istore (pc1 := 131) (L1 := [some (.ref t), some (.int (iI ((k : Int) + 1))), some (.int (iI (bC M))), some (.int (iI r)), some (.int (iI x)), some (.int (iI z11)), some (.int (iI (bC (fc E ti ps (k + 1) (r / 2) (ogF ps top x) (fgF ps top x) (r % 2)))))]) dX8_learnRounds_129 rfl (by decide) rfl rfl ?_
                    refine J_aload_n (pc1 := 132) rfl (i := 0) rfl dX8_learnRounds_131 rfl ?_
                    refine J_get (pc1 := 135) (j := 6) inUX8 (ci := 8) rfl (by decide) lf_X8_38 dX8_learnRounds_132 rfl T2.1 rfl ?_
                    refine J_iload (pc1 := 137) rfl dX8_learnRounds_135 rfl ?_
                    refine J_iload (pc1 := 139) rfl dX8_learnRounds_137 rfl ?_
                    refine J_if_eq (pc1 := 142) (tgt := 146) (bC_lo _) (bC_hi _) dX8_learnRounds_139 rfl rfl (fun hc6 => ?_) (fun hc6 => ?_)
                    · refine J_bipush (pc1 := 148) (by decide) dX8_learnRounds_146 rfl ?_
                      refine J_iast (pc1 := 149) dX8_learnRounds_148 rfl T2.2.2.2.1 (by omega) (by omega) (by omega) ?_
                      rw [pu_pu]
                      refine J_iload_n (pc1 := 150) rfl (i := 2) rfl dX8_learnRounds_149 rfl ?_
                      refine J_if_ne (pc1 := 153) (tgt := 158) (bC_lo _) (bC_hi _) dX8_learnRounds_150 rfl rfl (fun hc7 => ?_) (fun hc7 => ?_)
                      · refine J_iconst (pc1 := 159) dX8_learnRounds_158 rfl ?_
                        refine J_goto (tgt := 163) dX8_learnRounds_159 rfl ?_
                        refine J_istore_n (pc1 := 164) (L1 := [some (.ref t), some (.int (iI ((k : Int) + 1))), some (.int (iI 1)), some (.int (iI r)), some (.int (iI x)), some (.int (iI z11)), some (.int (iI (bC (fc E ti ps (k + 1) (r / 2) (ogF ps top x) (fgF ps top x) (r % 2)))))]) rfl (i := 2) dX8_learnRounds_163 rfl (by decide) rfl rfl ?_
                        refine J_iinc (pc1 := 167) (L1 := [some (.ref t), some (.int (iI ((k : Int) + 1))), some (.int (iI 1)), some (.int (iI r)), some (.int (iI (x + 1))), some (.int (iI z11)), some (.int (iI (bC (fc E ti ps (k + 1) (r / 2) (ogF ps top x) (fgF ps top x) (r % 2)))))]) dX8_learnRounds_164 rfl rfl (by decide) rfl rfl ?_
                        refine J_goto (tgt := 17) dX8_learnRounds_167 rfl ?_
                        refine J_L (L1 := [some (.ref t), some (.int (iI ((k : Int) + 1))), some (.int (iI (bC (M ∨ fc E ti ps (k + 1) (r / 2) (ogF ps top x) (fgF ps top x) (r % 2))))), some (.int (iI r)), some (.int (iI (x + 1))), some (.int (iI z11)), some (.int (iI (bC (fc E ti ps (k + 1) (r / 2) (ogF ps top x) (fgF ps top x) (r % 2)))))]) (by rw [bC_t (P := M ∨ fc E ti ps (k + 1) (r / 2) (ogF ps top x) (fgF ps top x) (r % 2)) (by first | exact Or.inl (bC_1 (by assumption)) | exact Or.inr (bC_1 (by assumption)))]) ?_
                        refine J_sub (L1 := [some (.ref t), some (.int (iI ((k : Int) + 1))), some (.int (iI (bC (M ∨ fc E ti ps (k + 1) (r / 2) (ogF ps top x) (fgF ps top x) (r % 2))))), some (.int (iI r)), some (.int (iI (x + 1))), none, none]) ⟨rfl, rfl, rfl, rfl, rfl, trivial⟩ ?_
                        obtain ⟨I1, I2⟩ := IB_set (v := 9) T.2.2.2.2.2 (by omega) (r := r) (x := x) (by omega) (by omega) hz11 hI hM (by assumption) Iff.rfl (by first | exact Or.inl ⟨rfl, bC_1 (by assumption)⟩ | exact Or.inr ⟨rfl, bC_0 (by assumption)⟩)
                        rw [show z11 + 1 = r * w + (x + 1) by omega] at I1 I2
                        exact ihi (x + 1) _ _ (by omega) (by omega) (uZ_b hg2 (by omega)) I1 I2 (by omega)
                      · refine J_iload (pc1 := 155) rfl dX8_learnRounds_153 rfl ?_
                        refine J_if_eq (pc1 := 158) (tgt := 162) (bC_lo _) (bC_hi _) dX8_learnRounds_155 rfl rfl (fun hc8 => ?_) (fun hc8 => ?_)
                        · refine J_iconst (pc1 := 163) dX8_learnRounds_162 rfl ?_
                          refine J_istore_n (pc1 := 164) (L1 := [some (.ref t), some (.int (iI ((k : Int) + 1))), some (.int (iI 0)), some (.int (iI r)), some (.int (iI x)), some (.int (iI z11)), some (.int (iI (bC (fc E ti ps (k + 1) (r / 2) (ogF ps top x) (fgF ps top x) (r % 2)))))]) rfl (i := 2) dX8_learnRounds_163 rfl (by decide) rfl rfl ?_
                          refine J_iinc (pc1 := 167) (L1 := [some (.ref t), some (.int (iI ((k : Int) + 1))), some (.int (iI 0)), some (.int (iI r)), some (.int (iI (x + 1))), some (.int (iI z11)), some (.int (iI (bC (fc E ti ps (k + 1) (r / 2) (ogF ps top x) (fgF ps top x) (r % 2)))))]) dX8_learnRounds_164 rfl rfl (by decide) rfl rfl ?_
                          refine J_goto (tgt := 17) dX8_learnRounds_167 rfl ?_
                          refine J_L (L1 := [some (.ref t), some (.int (iI ((k : Int) + 1))), some (.int (iI (bC (M ∨ fc E ti ps (k + 1) (r / 2) (ogF ps top x) (fgF ps top x) (r % 2))))), some (.int (iI r)), some (.int (iI (x + 1))), some (.int (iI z11)), some (.int (iI (bC (fc E ti ps (k + 1) (r / 2) (ogF ps top x) (fgF ps top x) (r % 2)))))]) (by rw [bC_f (P := M ∨ fc E ti ps (k + 1) (r / 2) (ogF ps top x) (fgF ps top x) (r % 2)) (fun z => z.elim (bC_0 (by assumption)) (bC_0 (by assumption)))]) ?_
                          refine J_sub (L1 := [some (.ref t), some (.int (iI ((k : Int) + 1))), some (.int (iI (bC (M ∨ fc E ti ps (k + 1) (r / 2) (ogF ps top x) (fgF ps top x) (r % 2))))), some (.int (iI r)), some (.int (iI (x + 1))), none, none]) ⟨rfl, rfl, rfl, rfl, rfl, trivial⟩ ?_
                          obtain ⟨I1, I2⟩ := IB_set (v := 9) T.2.2.2.2.2 (by omega) (r := r) (x := x) (by omega) (by omega) hz11 hI hM (by assumption) Iff.rfl (by first | exact Or.inl ⟨rfl, bC_1 (by assumption)⟩ | exact Or.inr ⟨rfl, bC_0 (by assumption)⟩)
                          rw [show z11 + 1 = r * w + (x + 1) by omega] at I1 I2
                          exact ihi (x + 1) _ _ (by omega) (by omega) (uZ_b hg2 (by omega)) I1 I2 (by omega)
                        · exact absurd (by assumption) hc8
                    · refine J_iload_n (pc1 := 143) rfl (i := 1) rfl dX8_learnRounds_142 rfl ?_
                      refine J_goto (tgt := 148) dX8_learnRounds_143 rfl ?_
                      refine J_iast (pc1 := 149) dX8_learnRounds_148 rfl T2.2.2.2.1 (by omega) (by omega) (by omega) ?_
                      rw [pu_pu]
                      refine J_iload_n (pc1 := 150) rfl (i := 2) rfl dX8_learnRounds_149 rfl ?_
                      refine J_if_ne (pc1 := 153) (tgt := 158) (bC_lo _) (bC_hi _) dX8_learnRounds_150 rfl rfl (fun hc9 => ?_) (fun hc9 => ?_)
                      · refine J_iconst (pc1 := 159) dX8_learnRounds_158 rfl ?_
                        refine J_goto (tgt := 163) dX8_learnRounds_159 rfl ?_
                        refine J_istore_n (pc1 := 164) (L1 := [some (.ref t), some (.int (iI ((k : Int) + 1))), some (.int (iI 1)), some (.int (iI r)), some (.int (iI x)), some (.int (iI z11)), some (.int (iI (bC (fc E ti ps (k + 1) (r / 2) (ogF ps top x) (fgF ps top x) (r % 2)))))]) rfl (i := 2) dX8_learnRounds_163 rfl (by decide) rfl rfl ?_
                        refine J_iinc (pc1 := 167) (L1 := [some (.ref t), some (.int (iI ((k : Int) + 1))), some (.int (iI 1)), some (.int (iI r)), some (.int (iI (x + 1))), some (.int (iI z11)), some (.int (iI (bC (fc E ti ps (k + 1) (r / 2) (ogF ps top x) (fgF ps top x) (r % 2)))))]) dX8_learnRounds_164 rfl rfl (by decide) rfl rfl ?_
                        refine J_goto (tgt := 17) dX8_learnRounds_167 rfl ?_
                        refine J_L (L1 := [some (.ref t), some (.int (iI ((k : Int) + 1))), some (.int (iI (bC (M ∨ fc E ti ps (k + 1) (r / 2) (ogF ps top x) (fgF ps top x) (r % 2))))), some (.int (iI r)), some (.int (iI (x + 1))), some (.int (iI z11)), some (.int (iI (bC (fc E ti ps (k + 1) (r / 2) (ogF ps top x) (fgF ps top x) (r % 2)))))]) (by rw [bC_t (P := M ∨ fc E ti ps (k + 1) (r / 2) (ogF ps top x) (fgF ps top x) (r % 2)) (by first | exact Or.inl (bC_1 (by assumption)) | exact Or.inr (bC_1 (by assumption)))]) ?_
                        refine J_sub (L1 := [some (.ref t), some (.int (iI ((k : Int) + 1))), some (.int (iI (bC (M ∨ fc E ti ps (k + 1) (r / 2) (ogF ps top x) (fgF ps top x) (r % 2))))), some (.int (iI r)), some (.int (iI (x + 1))), none, none]) ⟨rfl, rfl, rfl, rfl, rfl, trivial⟩ ?_
                        obtain ⟨I1, I2⟩ := IB_set (v := ((k : Int) + 1)) T.2.2.2.2.2 (by omega) (r := r) (x := x) (by omega) (by omega) hz11 hI hM (by assumption) Iff.rfl (by first | exact Or.inl ⟨rfl, bC_1 (by assumption)⟩ | exact Or.inr ⟨rfl, bC_0 (by assumption)⟩)
                        rw [show z11 + 1 = r * w + (x + 1) by omega] at I1 I2
                        exact ihi (x + 1) _ _ (by omega) (by omega) (uZ_b hg2 (by omega)) I1 I2 (by omega)
                      · refine J_iload (pc1 := 155) rfl dX8_learnRounds_153 rfl ?_
                        refine J_if_eq (pc1 := 158) (tgt := 162) (bC_lo _) (bC_hi _) dX8_learnRounds_155 rfl rfl (fun hc10 => ?_) (fun hc10 => ?_)
                        · exact absurd hc10 (by assumption)
                        · refine J_iconst (pc1 := 159) dX8_learnRounds_158 rfl ?_
                          refine J_goto (tgt := 163) dX8_learnRounds_159 rfl ?_
                          refine J_istore_n (pc1 := 164) (L1 := [some (.ref t), some (.int (iI ((k : Int) + 1))), some (.int (iI 1)), some (.int (iI r)), some (.int (iI x)), some (.int (iI z11)), some (.int (iI (bC (fc E ti ps (k + 1) (r / 2) (ogF ps top x) (fgF ps top x) (r % 2)))))]) rfl (i := 2) dX8_learnRounds_163 rfl (by decide) rfl rfl ?_
                          refine J_iinc (pc1 := 167) (L1 := [some (.ref t), some (.int (iI ((k : Int) + 1))), some (.int (iI 1)), some (.int (iI r)), some (.int (iI (x + 1))), some (.int (iI z11)), some (.int (iI (bC (fc E ti ps (k + 1) (r / 2) (ogF ps top x) (fgF ps top x) (r % 2)))))]) dX8_learnRounds_164 rfl rfl (by decide) rfl rfl ?_
                          refine J_goto (tgt := 17) dX8_learnRounds_167 rfl ?_
                          refine J_L (L1 := [some (.ref t), some (.int (iI ((k : Int) + 1))), some (.int (iI (bC (M ∨ fc E ti ps (k + 1) (r / 2) (ogF ps top x) (fgF ps top x) (r % 2))))), some (.int (iI r)), some (.int (iI (x + 1))), some (.int (iI z11)), some (.int (iI (bC (fc E ti ps (k + 1) (r / 2) (ogF ps top x) (fgF ps top x) (r % 2)))))]) (by rw [bC_t (P := M ∨ fc E ti ps (k + 1) (r / 2) (ogF ps top x) (fgF ps top x) (r % 2)) (by first | exact Or.inl (bC_1 (by assumption)) | exact Or.inr (bC_1 (by assumption)))]) ?_
                          refine J_sub (L1 := [some (.ref t), some (.int (iI ((k : Int) + 1))), some (.int (iI (bC (M ∨ fc E ti ps (k + 1) (r / 2) (ogF ps top x) (fgF ps top x) (r % 2))))), some (.int (iI r)), some (.int (iI (x + 1))), none, none]) ⟨rfl, rfl, rfl, rfl, rfl, trivial⟩ ?_
                          obtain ⟨I1, I2⟩ := IB_set (v := ((k : Int) + 1)) T.2.2.2.2.2 (by omega) (r := r) (x := x) (by omega) (by omega) hz11 hI hM (by assumption) Iff.rfl (by first | exact Or.inl ⟨rfl, bC_1 (by assumption)⟩ | exact Or.inr ⟨rfl, bC_0 (by assumption)⟩)
                          rw [show z11 + 1 = r * w + (x + 1) by omega] at I1 I2
                          exact ihi (x + 1) _ _ (by omega) (by omega) (uZ_b hg2 (by omega)) I1 I2 (by omega)
                  · refine J_aload_n (pc1 := 79) rfl (i := 0) rfl dX8_learnRounds_78 rfl ?_
                    refine J_iload_n (pc1 := 80) rfl (i := 1) rfl dX8_learnRounds_79 rfl ?_
                    refine J_iconst (pc1 := 81) dX8_learnRounds_80 rfl ?_
                    refine J_isub (pc1 := 82) dX8_learnRounds_81 rfl ?_
                    refine J_nm (fun z13 hz13 => ?_)
                    obtain rfl : z13 = (k : Int) := by omega
                    refine J_iload_n (pc1 := 83) rfl (i := 3) rfl dX8_learnRounds_82 rfl ?_
                    refine J_iconst (pc1 := 84) dX8_learnRounds_83 rfl ?_
                    refine J_idiv (pc1 := 85) (by omega) (by omega) (by omega) (by omega) dX8_learnRounds_84 rfl ?_
                    refine J_aload_n (pc1 := 86) rfl (i := 0) rfl dX8_learnRounds_85 rfl ?_
                    refine J_get (pc1 := 89) (j := 4) inUX8 (ci := 8) rfl (by decide) lf_X8_31 dX8_learnRounds_86 rfl T2.1 rfl ?_
                    refine J_iload (pc1 := 91) rfl dX8_learnRounds_89 rfl ?_
                    refine J_iald (pc1 := 92) dX8_learnRounds_91 rfl T2.2.1 (by omega) (by omega) (by omega) ?_
                    refine J_aload_n (pc1 := 93) rfl (i := 0) rfl dX8_learnRounds_92 rfl ?_
                    refine J_get (pc1 := 96) (j := 5) inUX8 (ci := 8) rfl (by decide) lf_X8_35 dX8_learnRounds_93 rfl T2.1 rfl ?_
                    refine J_iload (pc1 := 98) rfl dX8_learnRounds_96 rfl ?_
                    refine J_iald (pc1 := 99) dX8_learnRounds_98 rfl T2.2.2.1 (by omega) (by omega) (by omega) ?_
                    have hq : bidP ti ps (PL ps top w g k) (r / 2) (ogF ps top x) (fgF ps top x) ↔ fc E ti ps (k + 1) (r / 2) (ogF ps top x) (fgF ps top x) (r % 2) := by
                      rw [show r % 2 = 1 by omega, ← stP_1 (E := E) (by omega)]
                      exact IB_st T.2.2.2.2.2 hI s1
                    refine J_callVI (pc1 := 102) (As := [.int (iI (k : Int)), .int (iI (r / 2)), .int (iI (ogF ps top x)), .int (iI (fgF ps top x))]) gv_X8_45 yv_X8_bidForces rfl (c_X8_bidForces T2 s1 (by omega) (by omega)) dX8_learnRounds_99 rfl T2.1 rfl rfl (by omega) (by decide) (Nat.zero_le _) (Nat.zero_le _) (Nat.le_of_ble_eq_true rfl) ?_
                    rw [bC_c hq]
                    refine J_goto (tgt := 129) dX8_learnRounds_102 rfl ?_
                    refine J_istore (pc1 := 131) (L1 := [some (.ref t), some (.int (iI ((k : Int) + 1))), some (.int (iI (bC M))), some (.int (iI r)), some (.int (iI x)), some (.int (iI z11)), some (.int (iI (bC (fc E ti ps (k + 1) (r / 2) (ogF ps top x) (fgF ps top x) (r % 2)))))]) dX8_learnRounds_129 rfl (by decide) rfl rfl ?_
                    refine J_aload_n (pc1 := 132) rfl (i := 0) rfl dX8_learnRounds_131 rfl ?_
                    refine J_get (pc1 := 135) (j := 6) inUX8 (ci := 8) rfl (by decide) lf_X8_38 dX8_learnRounds_132 rfl T2.1 rfl ?_
                    refine J_iload (pc1 := 137) rfl dX8_learnRounds_135 rfl ?_
                    refine J_iload (pc1 := 139) rfl dX8_learnRounds_137 rfl ?_
                    refine J_if_eq (pc1 := 142) (tgt := 146) (bC_lo _) (bC_hi _) dX8_learnRounds_139 rfl rfl (fun hc11 => ?_) (fun hc11 => ?_)
                    · refine J_bipush (pc1 := 148) (by decide) dX8_learnRounds_146 rfl ?_
                      refine J_iast (pc1 := 149) dX8_learnRounds_148 rfl T2.2.2.2.1 (by omega) (by omega) (by omega) ?_
                      rw [pu_pu]
                      refine J_iload_n (pc1 := 150) rfl (i := 2) rfl dX8_learnRounds_149 rfl ?_
                      refine J_if_ne (pc1 := 153) (tgt := 158) (bC_lo _) (bC_hi _) dX8_learnRounds_150 rfl rfl (fun hc12 => ?_) (fun hc12 => ?_)
                      · refine J_iconst (pc1 := 159) dX8_learnRounds_158 rfl ?_
                        refine J_goto (tgt := 163) dX8_learnRounds_159 rfl ?_
                        refine J_istore_n (pc1 := 164) (L1 := [some (.ref t), some (.int (iI ((k : Int) + 1))), some (.int (iI 1)), some (.int (iI r)), some (.int (iI x)), some (.int (iI z11)), some (.int (iI (bC (fc E ti ps (k + 1) (r / 2) (ogF ps top x) (fgF ps top x) (r % 2)))))]) rfl (i := 2) dX8_learnRounds_163 rfl (by decide) rfl rfl ?_
                        refine J_iinc (pc1 := 167) (L1 := [some (.ref t), some (.int (iI ((k : Int) + 1))), some (.int (iI 1)), some (.int (iI r)), some (.int (iI (x + 1))), some (.int (iI z11)), some (.int (iI (bC (fc E ti ps (k + 1) (r / 2) (ogF ps top x) (fgF ps top x) (r % 2)))))]) dX8_learnRounds_164 rfl rfl (by decide) rfl rfl ?_
                        refine J_goto (tgt := 17) dX8_learnRounds_167 rfl ?_
                        refine J_L (L1 := [some (.ref t), some (.int (iI ((k : Int) + 1))), some (.int (iI (bC (M ∨ fc E ti ps (k + 1) (r / 2) (ogF ps top x) (fgF ps top x) (r % 2))))), some (.int (iI r)), some (.int (iI (x + 1))), some (.int (iI z11)), some (.int (iI (bC (fc E ti ps (k + 1) (r / 2) (ogF ps top x) (fgF ps top x) (r % 2)))))]) (by rw [bC_t (P := M ∨ fc E ti ps (k + 1) (r / 2) (ogF ps top x) (fgF ps top x) (r % 2)) (by first | exact Or.inl (bC_1 (by assumption)) | exact Or.inr (bC_1 (by assumption)))]) ?_
                        refine J_sub (L1 := [some (.ref t), some (.int (iI ((k : Int) + 1))), some (.int (iI (bC (M ∨ fc E ti ps (k + 1) (r / 2) (ogF ps top x) (fgF ps top x) (r % 2))))), some (.int (iI r)), some (.int (iI (x + 1))), none, none]) ⟨rfl, rfl, rfl, rfl, rfl, trivial⟩ ?_
                        obtain ⟨I1, I2⟩ := IB_set (v := 9) T.2.2.2.2.2 (by omega) (r := r) (x := x) (by omega) (by omega) hz11 hI hM (by assumption) Iff.rfl (by first | exact Or.inl ⟨rfl, bC_1 (by assumption)⟩ | exact Or.inr ⟨rfl, bC_0 (by assumption)⟩)
                        rw [show z11 + 1 = r * w + (x + 1) by omega] at I1 I2
                        exact ihi (x + 1) _ _ (by omega) (by omega) (uZ_b hg2 (by omega)) I1 I2 (by omega)
                      · refine J_iload (pc1 := 155) rfl dX8_learnRounds_153 rfl ?_
                        refine J_if_eq (pc1 := 158) (tgt := 162) (bC_lo _) (bC_hi _) dX8_learnRounds_155 rfl rfl (fun hc13 => ?_) (fun hc13 => ?_)
                        · refine J_iconst (pc1 := 163) dX8_learnRounds_162 rfl ?_
                          refine J_istore_n (pc1 := 164) (L1 := [some (.ref t), some (.int (iI ((k : Int) + 1))), some (.int (iI 0)), some (.int (iI r)), some (.int (iI x)), some (.int (iI z11)), some (.int (iI (bC (fc E ti ps (k + 1) (r / 2) (ogF ps top x) (fgF ps top x) (r % 2)))))]) rfl (i := 2) dX8_learnRounds_163 rfl (by decide) rfl rfl ?_
                          refine J_iinc (pc1 := 167) (L1 := [some (.ref t), some (.int (iI ((k : Int) + 1))), some (.int (iI 0)), some (.int (iI r)), some (.int (iI (x + 1))), some (.int (iI z11)), some (.int (iI (bC (fc E ti ps (k + 1) (r / 2) (ogF ps top x) (fgF ps top x) (r % 2)))))]) dX8_learnRounds_164 rfl rfl (by decide) rfl rfl ?_
                          refine J_goto (tgt := 17) dX8_learnRounds_167 rfl ?_
                          refine J_L (L1 := [some (.ref t), some (.int (iI ((k : Int) + 1))), some (.int (iI (bC (M ∨ fc E ti ps (k + 1) (r / 2) (ogF ps top x) (fgF ps top x) (r % 2))))), some (.int (iI r)), some (.int (iI (x + 1))), some (.int (iI z11)), some (.int (iI (bC (fc E ti ps (k + 1) (r / 2) (ogF ps top x) (fgF ps top x) (r % 2)))))]) (by rw [bC_f (P := M ∨ fc E ti ps (k + 1) (r / 2) (ogF ps top x) (fgF ps top x) (r % 2)) (fun z => z.elim (bC_0 (by assumption)) (bC_0 (by assumption)))]) ?_
                          refine J_sub (L1 := [some (.ref t), some (.int (iI ((k : Int) + 1))), some (.int (iI (bC (M ∨ fc E ti ps (k + 1) (r / 2) (ogF ps top x) (fgF ps top x) (r % 2))))), some (.int (iI r)), some (.int (iI (x + 1))), none, none]) ⟨rfl, rfl, rfl, rfl, rfl, trivial⟩ ?_
                          obtain ⟨I1, I2⟩ := IB_set (v := 9) T.2.2.2.2.2 (by omega) (r := r) (x := x) (by omega) (by omega) hz11 hI hM (by assumption) Iff.rfl (by first | exact Or.inl ⟨rfl, bC_1 (by assumption)⟩ | exact Or.inr ⟨rfl, bC_0 (by assumption)⟩)
                          rw [show z11 + 1 = r * w + (x + 1) by omega] at I1 I2
                          exact ihi (x + 1) _ _ (by omega) (by omega) (uZ_b hg2 (by omega)) I1 I2 (by omega)
                        · exact absurd (by assumption) hc13
                    · refine J_iload_n (pc1 := 143) rfl (i := 1) rfl dX8_learnRounds_142 rfl ?_
                      refine J_goto (tgt := 148) dX8_learnRounds_143 rfl ?_
                      refine J_iast (pc1 := 149) dX8_learnRounds_148 rfl T2.2.2.2.1 (by omega) (by omega) (by omega) ?_
                      rw [pu_pu]
                      refine J_iload_n (pc1 := 150) rfl (i := 2) rfl dX8_learnRounds_149 rfl ?_
                      refine J_if_ne (pc1 := 153) (tgt := 158) (bC_lo _) (bC_hi _) dX8_learnRounds_150 rfl rfl (fun hc14 => ?_) (fun hc14 => ?_)
                      · refine J_iconst (pc1 := 159) dX8_learnRounds_158 rfl ?_
                        refine J_goto (tgt := 163) dX8_learnRounds_159 rfl ?_
                        refine J_istore_n (pc1 := 164) (L1 := [some (.ref t), some (.int (iI ((k : Int) + 1))), some (.int (iI 1)), some (.int (iI r)), some (.int (iI x)), some (.int (iI z11)), some (.int (iI (bC (fc E ti ps (k + 1) (r / 2) (ogF ps top x) (fgF ps top x) (r % 2)))))]) rfl (i := 2) dX8_learnRounds_163 rfl (by decide) rfl rfl ?_
                        refine J_iinc (pc1 := 167) (L1 := [some (.ref t), some (.int (iI ((k : Int) + 1))), some (.int (iI 1)), some (.int (iI r)), some (.int (iI (x + 1))), some (.int (iI z11)), some (.int (iI (bC (fc E ti ps (k + 1) (r / 2) (ogF ps top x) (fgF ps top x) (r % 2)))))]) dX8_learnRounds_164 rfl rfl (by decide) rfl rfl ?_
                        refine J_goto (tgt := 17) dX8_learnRounds_167 rfl ?_
                        refine J_L (L1 := [some (.ref t), some (.int (iI ((k : Int) + 1))), some (.int (iI (bC (M ∨ fc E ti ps (k + 1) (r / 2) (ogF ps top x) (fgF ps top x) (r % 2))))), some (.int (iI r)), some (.int (iI (x + 1))), some (.int (iI z11)), some (.int (iI (bC (fc E ti ps (k + 1) (r / 2) (ogF ps top x) (fgF ps top x) (r % 2)))))]) (by rw [bC_t (P := M ∨ fc E ti ps (k + 1) (r / 2) (ogF ps top x) (fgF ps top x) (r % 2)) (by first | exact Or.inl (bC_1 (by assumption)) | exact Or.inr (bC_1 (by assumption)))]) ?_
                        refine J_sub (L1 := [some (.ref t), some (.int (iI ((k : Int) + 1))), some (.int (iI (bC (M ∨ fc E ti ps (k + 1) (r / 2) (ogF ps top x) (fgF ps top x) (r % 2))))), some (.int (iI r)), some (.int (iI (x + 1))), none, none]) ⟨rfl, rfl, rfl, rfl, rfl, trivial⟩ ?_
                        obtain ⟨I1, I2⟩ := IB_set (v := ((k : Int) + 1)) T.2.2.2.2.2 (by omega) (r := r) (x := x) (by omega) (by omega) hz11 hI hM (by assumption) Iff.rfl (by first | exact Or.inl ⟨rfl, bC_1 (by assumption)⟩ | exact Or.inr ⟨rfl, bC_0 (by assumption)⟩)
                        rw [show z11 + 1 = r * w + (x + 1) by omega] at I1 I2
                        exact ihi (x + 1) _ _ (by omega) (by omega) (uZ_b hg2 (by omega)) I1 I2 (by omega)
                      · refine J_iload (pc1 := 155) rfl dX8_learnRounds_153 rfl ?_
                        refine J_if_eq (pc1 := 158) (tgt := 162) (bC_lo _) (bC_hi _) dX8_learnRounds_155 rfl rfl (fun hc15 => ?_) (fun hc15 => ?_)
                        · exact absurd hc15 (by assumption)
                        · refine J_iconst (pc1 := 159) dX8_learnRounds_158 rfl ?_
                          refine J_goto (tgt := 163) dX8_learnRounds_159 rfl ?_
                          refine J_istore_n (pc1 := 164) (L1 := [some (.ref t), some (.int (iI ((k : Int) + 1))), some (.int (iI 1)), some (.int (iI r)), some (.int (iI x)), some (.int (iI z11)), some (.int (iI (bC (fc E ti ps (k + 1) (r / 2) (ogF ps top x) (fgF ps top x) (r % 2)))))]) rfl (i := 2) dX8_learnRounds_163 rfl (by decide) rfl rfl ?_
                          refine J_iinc (pc1 := 167) (L1 := [some (.ref t), some (.int (iI ((k : Int) + 1))), some (.int (iI 1)), some (.int (iI r)), some (.int (iI (x + 1))), some (.int (iI z11)), some (.int (iI (bC (fc E ti ps (k + 1) (r / 2) (ogF ps top x) (fgF ps top x) (r % 2)))))]) dX8_learnRounds_164 rfl rfl (by decide) rfl rfl ?_
                          refine J_goto (tgt := 17) dX8_learnRounds_167 rfl ?_
                          refine J_L (L1 := [some (.ref t), some (.int (iI ((k : Int) + 1))), some (.int (iI (bC (M ∨ fc E ti ps (k + 1) (r / 2) (ogF ps top x) (fgF ps top x) (r % 2))))), some (.int (iI r)), some (.int (iI (x + 1))), some (.int (iI z11)), some (.int (iI (bC (fc E ti ps (k + 1) (r / 2) (ogF ps top x) (fgF ps top x) (r % 2)))))]) (by rw [bC_t (P := M ∨ fc E ti ps (k + 1) (r / 2) (ogF ps top x) (fgF ps top x) (r % 2)) (by first | exact Or.inl (bC_1 (by assumption)) | exact Or.inr (bC_1 (by assumption)))]) ?_
                          refine J_sub (L1 := [some (.ref t), some (.int (iI ((k : Int) + 1))), some (.int (iI (bC (M ∨ fc E ti ps (k + 1) (r / 2) (ogF ps top x) (fgF ps top x) (r % 2))))), some (.int (iI r)), some (.int (iI (x + 1))), none, none]) ⟨rfl, rfl, rfl, rfl, rfl, trivial⟩ ?_
                          obtain ⟨I1, I2⟩ := IB_set (v := ((k : Int) + 1)) T.2.2.2.2.2 (by omega) (r := r) (x := x) (by omega) (by omega) hz11 hI hM (by assumption) Iff.rfl (by first | exact Or.inl ⟨rfl, bC_1 (by assumption)⟩ | exact Or.inr ⟨rfl, bC_0 (by assumption)⟩)
                          rw [show z11 + 1 = r * w + (x + 1) by omega] at I1 I2
                          exact ihi (x + 1) _ _ (by omega) (by omega) (uZ_b hg2 (by omega)) I1 I2 (by omega)
      refine J_iload_n (pc1 := 5) rfl (i := 3) rfl dX8_learnRounds_4 rfl ?_
      refine J_iconst (pc1 := 6) dX8_learnRounds_5 rfl ?_
      refine J_aload_n (pc1 := 7) rfl (i := 0) rfl dX8_learnRounds_6 rfl ?_
      refine J_get (pc1 := 10) (j := 0) inUX8 (ci := 8) rfl (by decide) lf_X8_9 dX8_learnRounds_7 rfl T2.1 rfl ?_
      refine J_imul (pc1 := 11) dX8_learnRounds_10 rfl ?_
      refine J_icmp_ge (pc1 := 14) (tgt := 176) (by omega) (by omega) (by omega) (by omega) dX8_learnRounds_11 rfl rfl (fun hc16 => ?_) (fun hc16 => ?_)
      · refine J_iload_n (pc1 := 177) rfl (i := 2) rfl dX8_learnRounds_176 rfl ?_
        exact J_iret rfl (nar_bC _) dX8_learnRounds_177 (Nat.le_refl _) (Nat.le_refl _) (⟨M, g, rfl, rfl, hg2, IB_end T.2.2.2.2.2 hk ((show r = 4 * E by omega) ▸ hI) ((show r = 4 * E by omega) ▸ hM)⟩)
      · refine J_iconst (pc1 := 15) dX8_learnRounds_14 rfl ?_
        refine J_istore (pc1 := 17) (L1 := [some (.ref t), some (.int (iI ((k : Int) + 1))), some (.int (iI (bC M))), some (.int (iI r)), some (.int (iI 0)), none, none]) dX8_learnRounds_15 rfl (by decide) rfl rfl ?_
        have e9 : r * (w : Int) + 0 = r * w := Int.add_zero _
        exact LPi (by omega) (w + 1) 0 g M (by omega) (by omega) hg2 (by rw [e9]; exact hI) (by rw [e9]; exact hM) (by omega)
  refine J_iconst (pc1 := 1) dX8_learnRounds_0 rfl ?_
  refine J_istore_n (pc1 := 2) (L1 := [some (.ref t), some (.int (iI ((k : Int) + 1))), some (.int (iI 0)), none, none, none, none]) rfl (i := 2) dX8_learnRounds_1 rfl (by decide) rfl rfl ?_
  refine J_iconst (pc1 := 3) dX8_learnRounds_2 rfl ?_
  refine J_istore_n (pc1 := 4) (L1 := [some (.ref t), some (.int (iI ((k : Int) + 1))), some (.int (iI 0)), some (.int (iI 2)), none, none, none]) rfl (i := 3) dX8_learnRounds_3 rfl (by decide) rfl rfl ?_
  refine J_S (S1 := pu S tm (aI n tg)) (pu_id T.2.2.2.1).symm ?_
  refine J_L (L1 := [some (.ref t), some (.int (iI ((k : Int) + 1))), some (.int (iI (bC False))), some (.int (iI 2)), none, none, none]) (by rw [bC_f id]) ?_
  exact LPo (4 * E + 1).toNat 2 tg False (by omega) (by omega) hg (IB_start T.2.2.2.2.2 hk ha) (MO_start T.2.2.2.2.2) (by omega)
