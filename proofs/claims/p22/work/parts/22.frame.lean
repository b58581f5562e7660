/-! 22.frame: a contract over a part of the pool holds over the whole pool, the rest of it stays -/
def pv (S1 S2 : pS) : pS := fun a => match S1 a with
  | some e => some e
  | none => S2 a
def dj (S1 S2 : pS) : Prop := ∀ a e, S1 a = some e → S2 a = none
theorem pv_l {S1 S2 : pS} {a : Nat} {e : pE} (h : S1 a = some e) : pv S1 S2 a = some e := by unfold pv; rw [h]
theorem pv_r {S1 S2 : pS} {a : Nat} (h : S1 a = none) : pv S1 S2 a = S2 a := by unfold pv; rw [h]
theorem pv_2 {S1 S2 : pS} (hd : dj S1 S2) {a : Nat} {e : pE} (h : S2 a = some e) : pv S1 S2 a = some e := by
  cases h1 : S1 a with
  | none => rw [pv_r h1]; exact h
  | some x => rw [hd a x h1] at h; cases h
theorem pv_c {S1 S2 : pS} {a : Nat} {e : pE} (h : pv S1 S2 a = some e) : S1 a = some e ∨ (S1 a = none ∧ S2 a = some e) := by
  cases h1 : S1 a with
  | none => rw [pv_r h1] at h; exact Or.inr ⟨rfl, h⟩
  | some x => rw [pv_l h1] at h; exact Or.inl h
theorem pv_sw {S1 S2 : pS} (hd : dj S1 S2) : pv S1 S2 = pv S2 S1 := by
  funext a
  cases h1 : S1 a with
  | some x => rw [pv_l h1, pv_r (hd a x h1), h1]
  | none =>
    rw [pv_r h1]
    cases h2 : S2 a with
    | some x => rw [pv_l h2]
    | none => rw [pv_r h2, h1]
theorem dj.sw {S1 S2 : pS} (hd : dj S1 S2) : dj S2 S1 := fun a e h => by
  cases h1 : S1 a with
  | none => rfl
  | some x => rw [hd a x h1] at h; cases h
/-- each stands once -/
def nd : List Nat → Prop
  | [] => True
  | a :: l => a ∉ l ∧ nd l
/-- those that the pool has -/
def fl (S : pS) : List Nat → List Nat
  | [] => []
  | a :: l => if (S a).isSome = true then a :: fl S l else fl S l
theorem fl_mem {S : pS} {a : Nat} : ∀ l : List Nat, a ∈ fl S l ↔ a ∈ l ∧ (S a).isSome = true := by
  intro l
  induction l with
  | nil => exact ⟨fun h => absurd h List.not_mem_nil, fun h => absurd h.1 List.not_mem_nil⟩
  | cons b l ih =>
    unfold fl
    split
    · next q =>
      constructor
      · intro h
        rcases List.mem_cons.mp h with h | h
        · rw [h]; exact ⟨List.mem_cons_self, q⟩
        · exact ⟨List.mem_cons_of_mem _ (ih.mp h).1, (ih.mp h).2⟩
      · rintro ⟨h, h2⟩
        rcases List.mem_cons.mp h with h | h
        · rw [h]; exact List.mem_cons_self
        · exact List.mem_cons_of_mem _ (ih.mpr ⟨h, h2⟩)
    · next q =>
      constructor
      · intro h
        exact ⟨List.mem_cons_of_mem _ (ih.mp h).1, (ih.mp h).2⟩
      · rintro ⟨h, h2⟩
        rcases List.mem_cons.mp h with h | h
        · rw [h] at h2; exact absurd h2 q
        · exact ih.mpr ⟨h, h2⟩
theorem fl_nd {S : pS} : ∀ {l : List Nat}, nd l → nd (fl S l) := by
  intro l
  induction l with
  | nil => exact fun h => h
  | cons b l ih =>
    intro h
    unfold fl
    split
    · exact ⟨fun z => h.1 ((fl_mem l).mp z).1, ih h.2⟩
    · exact ih h.2
theorem nd_app {l2 : List Nat} (h2 : nd l2) : ∀ {l1 : List Nat}, nd l1 → (∀ a, a ∈ l1 → a ∉ l2) → nd (l1 ++ l2) := by
  intro l1
  induction l1 with
  | nil => exact fun _ _ => h2
  | cons b l ih =>
    intro h1 hx
    refine ⟨fun z => ?_, ih h1.2 (fun a ha => hx a (List.mem_cons_of_mem _ ha))⟩
    rcases List.mem_append.mp z with z | z
    · exact h1.1 z
    · exact hx b List.mem_cons_self z
theorem nd_ix : ∀ {l : List Nat}, nd l → ∀ (i j a : Nat), l[i]? = some a → l[j]? = some a → i = j := by
  intro l
  induction l with
  | nil => intro _ i j a h; rw [List.getElem?_nil] at h; cases h
  | cons b l ih =>
    intro h i j a hi hj
    cases i with
    | zero =>
      cases j with
      | zero => rfl
      | succ j =>
        rw [List.getElem?_cons_zero] at hi
        rw [List.getElem?_cons_succ] at hj
        cases hi
        exact absurd (List.mem_of_getElem? hj) h.1
    | succ i =>
      cases j with
      | zero =>
        rw [List.getElem?_cons_zero] at hj
        rw [List.getElem?_cons_succ] at hi
        cases hj
        exact absurd (List.mem_of_getElem? hi) h.1
      | succ j =>
        rw [List.getElem?_cons_succ] at hi hj
        rw [ih h.2 i j a hi hj]
theorem ix_nd : ∀ {l : List Nat}, (∀ (i j a : Nat), l[i]? = some a → l[j]? = some a → i = j) → nd l := by
  intro l
  induction l with
  | nil => exact fun _ => trivial
  | cons b l ih =>
    intro h
    refine ⟨fun z => ?_, ih (fun i j a hi hj => ?_)⟩
    · obtain ⟨k, hk⟩ := List.mem_iff_getElem?.mp z
      have := h 0 (k + 1) b (by rw [List.getElem?_cons_zero]) (by rw [List.getElem?_cons_succ]; exact hk)
      omega
    · have := h (i + 1) (j + 1) a (by rw [List.getElem?_cons_succ]; exact hi) (by rw [List.getElem?_cons_succ]; exact hj)
      omega
theorem pl_at {L : List Nat} {f : Nat → va_E} {k : Nat} {x : Nat × va_E} (h : (va_pl L f)[k]? = some x) : L[k]? = some x.1 := by
  unfold va_pl at h
  rw [List.getElem?_map] at h
  cases hl : L[k]? with
  | none => rw [hl] at h; cases h
  | some a => rw [hl] at h; cases h; rfl
theorem pl_to {L : List Nat} {f : Nat → va_E} {k a : Nat} (h : L[k]? = some a) : (va_pl L f)[k]? = some (a, f a) := by
  unfold va_pl
  rw [List.getElem?_map, h]
  rfl
theorem pH.out {D : va_G} {q : qC} {A : Nat → Prop} {S : pS} {H : Heap} (h : pH D q A S H) : ∃ L : List Nat, nd L ∧ (∀ a, a ∈ L ↔ ∃ e, S a = some e) ∧ ∀ a e, S a = some e → A a ∧ va_at D vwCl (a, pcv q e) H := by
  obtain ⟨L, f, h1, h2, h3, h4⟩ := h
  refine ⟨L, ix_nd (fun i j a hi hj => h4.1 i j _ _ (pl_to hi) (pl_to hj) rfl), fun a => ⟨h2 a, fun ⟨e, he⟩ => (h1 a e he).1⟩, fun a e he => ?_⟩
  obtain ⟨hL, hf⟩ := h1 a e he
  obtain ⟨k, hk⟩ := va_pl_get (X := []) (f := f) hL
  have hk : (va_pl L f)[k]? = some (a, f a) := hk
  rw [hf] at hk
  exact ⟨h4.2 k _ hk, h3 k _ hk⟩
theorem pH.mk {D : va_G} {q : qC} {A : Nat → Prop} {S : pS} {H : Heap} {L : List Nat} (hn : nd L) (hL : ∀ a, a ∈ L ↔ ∃ e, S a = some e) (h : ∀ a e, S a = some e → A a ∧ va_at D vwCl (a, pcv q e) H) : pH D q A S H := by
  let f : Nat → va_E := fun a => match S a with
    | some e => pcv q e
    | none => .inr (0, [])
  have hf : ∀ a e, S a = some e → f a = pcv q e := fun a e he => by
    show (match S a with | some e => pcv q e | none => .inr (0, [])) = pcv q e
    rw [he]
  have g : ∀ (k : Nat) (x : Nat × va_E), (va_pl L f)[k]? = some x → ∃ e, S x.1 = some e ∧ x = (x.1, pcv q e) := fun k x hk => by
    obtain ⟨h1, h2⟩ := pl_mem hk
    obtain ⟨e, he⟩ := (hL x.1).mp h1
    refine ⟨e, he, ?_⟩
    rw [hf _ _ he] at h2
    rw [← h2]
  refine ⟨L, f, fun a e he => ⟨(hL a).mpr ⟨e, he⟩, hf a e he⟩, fun a ha => (hL a).mp ha, fun k x hk => ?_, fun i j x y hi hj hxy => ?_, fun k x hk => ?_⟩
  · obtain ⟨e, he, hx⟩ := g k x hk
    rw [hx]
    exact (h _ _ he).2
  · have h1 := pl_at hi
    rw [hxy] at h1
    exact nd_ix hn i j y.1 h1 (pl_at hj)
  · obtain ⟨e, he, hx⟩ := g k x hk
    exact (h _ _ he).1
theorem pH.left {D : va_G} {q : qC} {A : Nat → Prop} {S1 S2 : pS} {H : Heap} (h : pH D q A (pv S1 S2) H) : pH D q A S1 H := by
  obtain ⟨L, h1, h2, h3⟩ := h.out
  refine pH.mk (L := fl S1 L) (fl_nd h1) (fun a => ?_) (fun a e he => h3 a e (pv_l he))
  rw [fl_mem]
  constructor
  · rintro ⟨-, q9⟩
    exact Option.isSome_iff_exists.mp q9
  · rintro ⟨e, he⟩
    exact ⟨(h2 a).mpr ⟨e, pv_l he⟩, by rw [he]; rfl⟩
/-- what a method does to its own part of the pool it does to the whole -/
theorem Ct.frame {y : MethodName} {cc : ByteArray} {nL : Nat} {rt : Option FieldType} {d mc ms : Nat} {vs : List Value} {S1 S2 : pS} {K : Option Value → pS → Prop} (h : Ct y cc nL rt d mc ms vs S1 K) (hd : dj S1 S2) : Ct y cc nL rt d mc ms vs (pv S1 S2) (fun r T => ∃ T1, K r T1 ∧ dj T1 S2 ∧ T = pv T1 S2) := by
  intro d' hd' l D q sz
  refine MetFree.mono (h d' hd' l D q sz) ?_ (fun _ _ _ _ _ z => z) ?_
  · rintro a s ⟨ha, hs, hP, hK⟩
    exact ⟨ha, hs, hP.left, hK⟩
  · rintro a s o t ⟨ha, hs, hP, hK⟩ ⟨⟨⟨r, S', hoc, hr, hP'⟩, hF⟩, L9, hE, hL9⟩
    have hdj : dj S' S2 := fun x e he => by
      rcases hP'.inA he with ⟨e1, h1⟩ | hx
      · exact hd x e1 h1
      · cases h2 : S2 x with
        | none => rfl
        | some e2 =>
          have := hP.lt (pv_2 hd h2)
          omega
    have hA : ∀ x, aS S1 sz x → aS (pv S1 S2) sz x := fun x hx => by
      rcases hx with ⟨e, he⟩ | hx
      · exact Or.inl ⟨e, pv_l he⟩
      · exact Or.inr hx
    have hN : ∀ x e, S2 x = some e → x < s.heap.size ∧ ¬ aS S1 sz x := fun x e he => by
      have hlt := hP.lt (pv_2 hd he)
      refine ⟨hlt, fun z => ?_⟩
      rcases z with ⟨e1, h1⟩ | z
      · rw [hd x e1 h1] at he; cases he
      · omega
    obtain ⟨L0, n0, l0, p0⟩ := hP.out
    obtain ⟨L1, n1, l1, p1⟩ := hP'.out
    refine ⟨⟨⟨r, pv S' S2, hoc, ⟨S', hr, hdj, rfl⟩, ?_⟩, hF.1, fun x hx hn => hF.2 x hx (fun z => hn (hA x z))⟩, L9, hE, fun x hx => hA _ (hL9 x hx)⟩
    have m2 : ∀ x, x ∈ fl S2 L0 ↔ ∃ e, S2 x = some e := fun x => by
      rw [fl_mem]
      constructor
      · rintro ⟨-, q9⟩
        exact Option.isSome_iff_exists.mp q9
      · rintro ⟨e, he⟩
        exact ⟨(l0 x).mpr ⟨e, pv_2 hd he⟩, by rw [he]; rfl⟩
    refine pH.mk (L := L1 ++ fl S2 L0) (nd_app (fl_nd n0) n1 (fun x hx hx2 => ?_)) (fun x => ?_) (fun x e he => ?_)
    · obtain ⟨e1, h1⟩ := (l1 x).mp hx
      obtain ⟨e2, h2⟩ := (m2 x).mp hx2
      rw [hdj x e1 h1] at h2
      cases h2
    · constructor
      · intro hx
        rcases List.mem_append.mp hx with hx | hx
        · obtain ⟨e1, h1⟩ := (l1 x).mp hx
          exact ⟨e1, pv_l h1⟩
        · obtain ⟨e2, h2⟩ := (m2 x).mp hx
          exact ⟨e2, pv_2 hdj h2⟩
      · rintro ⟨e, he⟩
        rcases pv_c he with h1 | ⟨-, h2⟩
        · exact List.mem_append_left _ ((l1 x).mpr ⟨e, h1⟩)
        · exact List.mem_append_right _ ((m2 x).mpr ⟨e, h2⟩)
    · rcases pv_c he with h1 | ⟨-, h2⟩
      · exact ⟨hA x (p1 x e h1).1, (p1 x e h1).2⟩
      · obtain ⟨g1, g2⟩ := hN x e h2
        exact ⟨Or.inl ⟨e, pv_2 hd h2⟩, (p0 x e (pv_2 hd h2)).2.kept (hF.2 x g1 g2)⟩
theorem Ct.weak {y : MethodName} {cc : ByteArray} {nL : Nat} {rt : Option FieldType} {d mc ms : Nat} {vs : List Value} {S : pS} {K K2 : Option Value → pS → Prop} (h : Ct y cc nL rt d mc ms vs S K) (hK : ∀ r T, K r T → K2 r T) : Ct y cc nL rt d mc ms vs S K2 := by
  intro d' hd' l D q sz
  refine MetFree.mono (h d' hd' l D q sz) (fun _ _ z => z) (fun _ _ _ _ _ z => z) ?_
  rintro a s o t - ⟨⟨⟨r, S', hoc, hr, hP'⟩, hF⟩, z⟩
  exact ⟨⟨⟨r, S', hoc, hK r S' hr, hP'⟩, hF⟩, z⟩
