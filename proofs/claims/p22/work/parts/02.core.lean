/-! 02.core: the pool (address -> content), the bundled judgement Jd, contracts Ct, a row an instruction -/
/-- the words that every contract here asks for: the good ones of the tables -/
def wsU : List Cond := lw_tbl.filter goodWord
abbrev pE : Type := (Nat × List Value) ⊕ ((Nat × (Nat → Int32)) ⊕ (Nat × Nat × (Nat → Option Nat)))
abbrev oO (ci : Nat) (fs : List Value) : pE := .inl (ci, fs)
abbrev oI (n : Nat) (f : Nat → Int32) : pE := .inr (.inl (n, f))
abbrev oQ (k n : Nat) (f : Nat → Option Nat) : pE := .inr (.inr (k, n, f))
abbrev qC : Type := ClassId × ClassId × ClassId
def qk (q : qC) (k : Nat) : ClassId := if k = 0 then q.2.1 else q.2.2
def pcv (q : qC) : pE → va_E
  | .inl o => .inr o
  | .inr (.inl a) => .inl (q.1, a.1, .inl a.2)
  | .inr (.inr a) => .inl (qk q a.1, a.2.1, .inr (.inr (.inr (.inr a.2.2))))
abbrev pS : Type := Nat → Option pE
def pu (S : pS) (a : Nat) (e : pE) : pS := fun x => if x = a then some e else S x
theorem pu_self (S : pS) (a : Nat) (e : pE) : pu S a e a = some e := if_pos rfl
theorem pu_ne (S : pS) {a b : Nat} (e : pE) (h : b ≠ a) : pu S a e b = S b := if_neg h
def tyQ (q : qC) : List (ClassId × FieldType) := [(q.1, .int), (q.2.1, .object "BorrowedHours$Game"), (q.2.2, .object "BorrowedHours$Times")]
def nestL : List (String × Nat × MethodName × String) := [("BorrowedHours", 11, ⟨"BorrowedHours$Game", "<init>", "()V"⟩, "BorrowedHours"), ("BorrowedHours$Game", 17, ⟨"BorrowedHours$Side", "<init>", "()V"⟩, "BorrowedHours"), ("BorrowedHours", 18, ⟨"BorrowedHours$History", "<init>", "()V"⟩, "BorrowedHours"), ("BorrowedHours", 25, ⟨"BorrowedHours$Slot", "<init>", "()V"⟩, "BorrowedHours"), ("BorrowedHours$Slot", 9, ⟨"BorrowedHours$Game", "<init>", "()V"⟩, "BorrowedHours"), ("BorrowedHours", 35, ⟨"BorrowedHours$Pad", "<init>", "()V"⟩, "BorrowedHours"), ("BorrowedHours", 42, ⟨"BorrowedHours$Memory", "<init>", "()V"⟩, "BorrowedHours"), ("BorrowedHours$History", 24, ⟨"BorrowedHours$Game", "<init>", "()V"⟩, "BorrowedHours")]
def KK (D : va_G) (q : qC) (s : State) : Prop := va_K D vwCl (tyQ q) s ∧ va_AO "BorrowedHours$Game" s ∧ va_AO "BorrowedHours$Times" s ∧ ∀ z ∈ nestL, va_Nw (.methodLinkNest z.1 z.2.1 z.2.2.1 z.2.2.2) s
theorem KK.warm {D : va_G} {q : qC} {s U : State} (hW : s.WarmedH U.vm) (h : KK D q s) : KK D q U := ⟨va_K.moved hW.alike h.1, va_AO.moved hW.alike h.2.1, va_AO.moved hW.alike h.2.2.1, fun z hz => va_Nw.warmM hW (h.2.2.2 z hz)⟩
theorem KK.same {D : va_G} {q : qC} {u U : State} (e : u.vm = U.vm) (h : KK D q u) : KK D q U := ⟨va_K.moved (by rw [← e]; exact Vm.Alike.refl _) h.1, va_AO.moved (by rw [← e]; exact Vm.Alike.refl _) h.2.1, va_AO.moved (by rw [← e]; exact Vm.Alike.refl _) h.2.2.1, fun z hz => va_Nw.same rfl e (h.2.2.2 z hz)⟩
def pH (D : va_G) (q : qC) (A : Nat → Prop) (S : pS) (H : Heap) : Prop :=
  ∃ (L : List Nat) (f : Nat → va_E), (∀ a e, S a = some e → a ∈ L ∧ f a = pcv q e) ∧ (∀ a, a ∈ L → ∃ e, S a = some e) ∧ va_P D vwCl (va_pl L f) H ∧ va_D A (va_pl L f)
theorem pl_mem {L : List Nat} {f : Nat → va_E} {k : Nat} {x : Nat × va_E} (h : (va_pl L f)[k]? = some x) : x.1 ∈ L ∧ x.2 = f x.1 := by
  unfold va_pl at h
  rw [List.getElem?_map] at h
  cases hl : L[k]? with
  | none => rw [hl] at h; cases h
  | some a => rw [hl] at h; cases h; exact ⟨List.mem_of_getElem? hl, rfl⟩
theorem pH.weaken {D : va_G} {q : qC} {A B : Nat → Prop} {S : pS} {H : Heap} (h : pH D q A S H) (hB : ∀ a e, S a = some e → A a → B a) : pH D q B S H := by
  obtain ⟨L, f, h1, h2, h3, h4⟩ := h
  refine ⟨L, f, h1, h2, h3, h4.weaken (fun k x hk hA => ?_)⟩
  obtain ⟨e, he⟩ := h2 x.1 (pl_mem hk).1
  exact hB x.1 e he hA
theorem pH.inA {D : va_G} {q : qC} {A : Nat → Prop} {S : pS} {H : Heap} (h : pH D q A S H) {a : Nat} {e : pE} (ha : S a = some e) : A a := by
  obtain ⟨L, f, h1, h2, h3, h4⟩ := h
  obtain ⟨k, hk⟩ := va_pl_get (X := []) (f := f) (h1 a e ha).1
  exact h4.2 k _ hk
theorem pH.lt {D : va_G} {q : qC} {A : Nat → Prop} {S : pS} {H : Heap} (h : pH D q A S H) {a : Nat} {e : pE} (ha : S a = some e) : a < H.size := by
  obtain ⟨L, f, h1, h2, h3, h4⟩ := h
  obtain ⟨k, hk⟩ := va_pl_get (X := []) (f := f) (h1 a e ha).1
  exact (h3 k _ hk).lt
theorem pH.at {D : va_G} {q : qC} {A : Nat → Prop} {S : pS} {H : Heap} (h : pH D q A S H) {a : Nat} {e : pE} (ha : S a = some e) :
    ∃ (L : List Nat) (f : Nat → va_E) (k : Nat), va_P D vwCl (va_pl L f) H ∧ va_D A (va_pl L f) ∧ (va_pl L f)[k]? = some (a, pcv q e) ∧
      (∀ (e' : pE) (H1 : Heap), va_P D vwCl ((va_pl L f).set k (a, pcv q e')) H1 → va_D A ((va_pl L f).set k (a, pcv q e')) → pH D q A (pu S a e') H1) ∧ ∀ (b : Nat) (x : pE), S b = some x → ∃ k2 : Nat, (va_pl L f)[k2]? = some (b, pcv q x) := by
  obtain ⟨L, f, h1, h2, h3, h4⟩ := h
  obtain ⟨hL, hf⟩ := h1 a e ha
  obtain ⟨k, hk⟩ := va_pl_get (X := []) (f := f) hL
  have hk : (va_pl L f)[k]? = some (a, f a) := hk
  refine ⟨L, f, k, h3, h4, by rw [hk, hf], fun e' H1 g3 g4 => ?_, fun b x hb => ?_⟩
  rotate_left
  · obtain ⟨hL2, hf2⟩ := h1 b x hb
    obtain ⟨k2, hk2⟩ := va_pl_get (X := []) (f := f) hL2
    exact ⟨k2, by rw [← hf2]; exact hk2⟩
  have hs : (va_pl L f).set k (a, pcv q e') = va_pl L (va_up f a (pcv q e')) := va_pl_set (X := []) h4 hL hk
  rw [hs] at g3 g4
  refine ⟨L, va_up f a (pcv q e'), fun b x hb => ?_, fun b hb => ?_, g3, g4⟩
  · by_cases hba : b = a
    · subst hba
      rw [pu_self] at hb
      cases hb
      exact ⟨hL, va_up_self _ _ _⟩
    · rw [pu_ne _ _ hba] at hb
      rw [va_up_ne _ _ hba]
      exact h1 b x hb
  · by_cases hba : b = a
    · subst hba
      exact ⟨_, pu_self _ _ _⟩
    · obtain ⟨x, hx⟩ := h2 b hb
      exact ⟨x, by rw [pu_ne _ _ hba]; exact hx⟩
theorem pH.new {D : va_G} {q : qC} {A : Nat → Prop} {S : pS} {L : List Nat} {f : Nat → va_E} (h1 : ∀ a e, S a = some e → a ∈ L ∧ f a = pcv q e) (h2 : ∀ a, a ∈ L → ∃ e, S a = some e) {a : Nat} {e : pE} {H1 : Heap}
    (g3 : va_P D vwCl (va_pl L f ++ [(a, pcv q e)]) H1) (g4 : va_D A (va_pl L f ++ [(a, pcv q e)])) : S a = none ∧ pH D q A (pu S a e) H1 := by
  have hL : a ∉ L := va_pl_fresh2 (X := []) g4
  have hS : S a = none := by
    cases hs : S a with
    | none => rfl
    | some x => exact absurd (h1 a x hs).1 hL
  rw [va_pl_push hL] at g3 g4
  refine ⟨hS, L ++ [a], va_up f a (pcv q e), fun b x hb => ?_, fun b hb => ?_, g3, g4⟩
  · by_cases hba : b = a
    · subst hba
      rw [pu_self] at hb
      cases hb
      exact ⟨List.mem_append_right _ List.mem_cons_self, va_up_self _ _ _⟩
    · rw [pu_ne _ _ hba] at hb
      rw [va_up_ne _ _ hba]
      exact ⟨List.mem_append_left _ (h1 b x hb).1, (h1 b x hb).2⟩
  · by_cases hba : b = a
    · subst hba
      exact ⟨_, pu_self _ _ _⟩
    · have hb2 : b ∈ L := by
        rcases List.mem_append.mp hb with h | h
        · exact h
        · exact absurd (List.mem_singleton.mp h) hba
      obtain ⟨x, hx⟩ := h2 b hb2
      exact ⟨x, by rw [pu_ne _ _ hba]; exact hx⟩
/-- the locals: what is known of each place -/
def lvL (ls : Array Slot) (nL : Nat) (L : List (Option Value)) : Prop := ls.size = nL ∧ lv_wf ls ∧ ∀ (i : Nat) (v : Value), L[i]? = some (some v) → ls[i]? = some (.val v)
def lvp (L : List (Option Value)) : List (Nat × Value) := (List.range L.length).filterMap (fun i => (L[i]?.getD none).map (fun v => (i, v)))
theorem lvp_mem {L : List (Option Value)} {i : Nat} {v : Value} : (i, v) ∈ lvp L ↔ L[i]? = some (some v) := by
  unfold lvp
  rw [List.mem_filterMap]
  constructor
  · rintro ⟨j, hj, h⟩
    cases hl : L[j]? with
    | none => rw [hl] at h; cases h
    | some o =>
      cases o with
      | none => rw [hl] at h; cases h
      | some w => rw [hl] at h; cases h; exact hl
  · intro h
    exact ⟨i, List.mem_range.mpr (List.getElem?_eq_some_iff.mp h).1, by rw [h]; rfl⟩
theorem lvL.has {ls : Array Slot} {nL : Nat} {L : List (Option Value)} (h : lvL ls nL L) : lv_has ls nL (lvp L) := ⟨h.1, h.2.1, fun x hx => h.2.2 x.1 x.2 (lvp_mem.mp hx)⟩
/-- no long stands in the place ahead of i -/
def noL (L : List (Option Value)) (i : Nat) : Bool := match i with
  | 0 => true
  | j + 1 => match L[j]? with
    | some (some v) => !(v.category == 2)
    | _ => true
theorem lvL.set1 {ls : Array Slot} {nL : Nat} {L : List (Option Value)} {i : Nat} {v : Value} (hc : noL L i = true) (h : lv_has ls nL ((i, v) :: (lvp L).filter (fun q => !(q.1 == i) && !(q.1 + 1 == i && q.2.category == 2)))) : lvL ls nL (L.set i (some v)) := by
  refine ⟨h.1, h.2.1, fun j w hj => ?_⟩
  rw [List.getElem?_set] at hj
  by_cases hij : i = j
  · subst hij
    rw [if_pos rfl] at hj
    split at hj
    · cases hj
      exact h.2.2 (i, v) List.mem_cons_self
    · cases hj
  · rw [if_neg hij] at hj
    refine h.2.2 (j, w) (List.mem_cons_of_mem _ (List.mem_filter.mpr ⟨lvp_mem.mpr hj, ?_⟩))
    have h1 : (j == i) = false := by simp; omega
    have h2 : (j + 1 == i && w.category == 2) = false := by
      by_cases hji : j + 1 = i
      · subst hji
        unfold noL at hc
        simp only [hj] at hc
        simp at hc ⊢
        exact hc
      · simp [hji]
    simp [h1]
    simp at h2
    by_cases hji : j + 1 = i
    · exact Or.inr (h2 hji)
    · exact Or.inl hji
theorem lvL.set2 {ls : Array Slot} {nL : Nat} {L : List (Option Value)} {i : Nat} {v : Value} (hc : noL L i = true) (h : lv_has ls nL ((i, v) :: (lvp L).filter (fun q => !(q.1 == i) && (!(q.1 == i + 1) && !(q.1 + 1 == i && q.2.category == 2))))) : lvL ls nL ((L.set i (some v)).set (i + 1) none) := by
  refine ⟨h.1, h.2.1, fun j w hj => ?_⟩
  rw [List.getElem?_set] at hj
  by_cases hi1 : i + 1 = j
  · rw [if_pos hi1] at hj
    split at hj <;> cases hj
  · rw [if_neg hi1] at hj
    rw [List.getElem?_set] at hj
    by_cases hij : i = j
    · subst hij
      rw [if_pos rfl] at hj
      split at hj
      · cases hj
        exact h.2.2 (i, v) List.mem_cons_self
      · cases hj
    · rw [if_neg hij] at hj
      refine h.2.2 (j, w) (List.mem_cons_of_mem _ (List.mem_filter.mpr ⟨lvp_mem.mpr hj, ?_⟩))
      have h1 : (j == i) = false := by simp; omega
      have h3 : (j == i + 1) = false := by simp; omega
      have h2 : (j + 1 == i && w.category == 2) = false := by
        by_cases hji : j + 1 = i
        · subst hji
          unfold noL at hc
          simp only [hj] at hc
          simp at hc ⊢
          exact hc
        · simp [hji]
      simp [h1, h3]
      simp at h2
      by_cases hji : j + 1 = i
      · exact Or.inr (h2 hji)
      · exact Or.inl hji
def lvOf (sl : List Slot) : List (Option Value) := sl.map (fun x => match x with | .val v => some v | _ => none)
def argL (vs : List Value) (n : Nat) : List (Option Value) := lvOf (lg_sl vs ++ List.replicate (n - (lg_sl vs).length) Slot.unset)
theorem lvL.entry (vs : List Value) {n : Nat} (h : (lg_sl vs).length ≤ n) : lvL ((lg_sl vs ++ List.replicate (n - (lg_sl vs).length) Slot.unset).toArray) n (argL vs n) := by
  have he := lv_entry vs h
  refine ⟨he.1, he.2.1, fun i v hi => ?_⟩
  unfold argL lvOf at hi
  rw [List.getElem?_map] at hi
  rw [List.getElem?_toArray]
  cases hx : (lg_sl vs ++ List.replicate (n - (lg_sl vs).length) Slot.unset)[i]? with
  | none => rw [hx] at hi; cases hi
  | some sl => rw [hx] at hi; cases sl <;> cases hi; rfl
def rmJ (d c s : Nat) : Room := { frames := d, cells := c, slots := s, locals := 40 * d }
def Cx (p : Program) (R : Room) (s : State) (m : MethodId) (args : Array Value) (meth : Method) (c : Code) (D : va_G) (q : qC) (A : Nat → Prop) (y : MethodName) (cc : ByteArray) (nL : Nat) (rt : Option FieldType) (d tc ts : Nat) : Prop :=
  p.tables.exec = Jvm.exec ∧ c.code = cc ∧ c.maxLocals = nL ∧ s.vm.findClass y.cls = some m.cls ∧ (∀ w ∈ wsU, w.before args s = true) ∧ meth.sig.returnType = rt ∧ meth.locks = false ∧ (y.name = "<init>" → meth.name = "<init>") ∧ KK D q s ∧ (∀ x, s.heap.size ≤ x → A x) ∧ d ≤ R.frames ∧ 40 * d ≤ R.locals ∧ tc ≤ R.cells ∧ ts ≤ R.slots
def retI (rt : Option FieldType) (r : Option Value) (ins : Instr) : Prop := (ins = .return_ ∧ rt = none ∧ r = none) ∨ (ins = .ireturn ∧ ∃ (ty : FieldType) (v : Int32), rt = some ty ∧ r = some (.int v) ∧ narrow ty (.int v) = .int v) ∨ (ins = .areturn ∧ ∃ (n : String) (a : Nat), rt = some (.object n) ∧ r = some (.ref a))
def RetW (p : Program) (l : Launch) (e : Env) (R : Room) (s : State) (m : MethodId) (args : Array Value) (below : List Frame) (meth : Method) (c : Code) (D : va_G) (q : qC) (A : Nat → Prop) (Q : State → Prop) (cc : ByteArray) (rt : Option FieldType) (tc ts : Nat) (r : Option Value) (S' : pS) : Prop :=
  ∀ (H : Heap) (locs : List Loc) (ls : Array Slot) (pc : Nat) (ins : Instr), retI rt r ins → decode cc pc = .ok (ins, 1) → pH D q A S' H → va_S A s.heap H locs → W p l e R s m args below meth c H locs tc ts Q (F0 m pc ls r.toList)
/-- from pc, with these locals, stack and pool, c0 cells of s0 slots made so far: the method comes to its return with K -/
def Jd (y : MethodName) (cc : ByteArray) (nL : Nat) (rt : Option FieldType) (d tc ts : Nat) (K : Option Value → pS → Prop) (c0 s0 : Nat) (S : pS) (pc : Nat) (L : List (Option Value)) (st : List Value) : Prop :=
  ∀ (p : Program) (l : Launch) (e : Env) (R : Room) (s : State) (m : MethodId) (args : Array Value) (below : List Frame) (meth : Method) (c : Code) (D : va_G) (q : qC) (A : Nat → Prop) (Q : State → Prop),
    Cx p R s m args meth c D q A y cc nL rt d tc ts →
    (∀ (r : Option Value) (S' : pS), K r S' → RetW p l e R s m args below meth c D q A Q cc rt tc ts r S') →
    ∀ (H : Heap) (locs : List Loc) (ls : Array Slot), pH D q A S H → va_S A s.heap H locs → lvL ls nL L → W p l e R s m args below meth c H locs c0 s0 Q (F0 m pc ls st)
def QJ (D : va_G) (q : qC) (K : Option Value → pS → Prop) (A : Nat → Prop) : Array Value → State → Outcome → State → Prop := fun _ st oc t =>
  (∃ (r : Option Value) (S' : pS), oc = .returned r ∧ K r S' ∧ pH D q A S' t.heap) ∧ va_F A st t
def aS (S : pS) (sz : Nat) : Nat → Prop := fun x => (∃ e, S x = some e) ∨ sz ≤ x
/-- the contract of a method: room d deep, mc cells of ms slots, from the pool S to K -/
def Ct (y : MethodName) (cc : ByteArray) (nL : Nat) (rt : Option FieldType) (d mc ms : Nat) (vs : List Value) (S : pS) (K : Option Value → pS → Prop) : Prop :=
  ∀ (d' : Nat), d ≤ d' → ∀ (l : Launch) (D : va_G) (q : qC) (sz : Nat), Met l y (.code y cc nL rt :: wsU) (rmJ d' mc ms) (va_Pc vs (fun U => U.heap.size = sz ∧ pH D q (fun _ => True) S U.heap ∧ KK D q U)) (QJ D q K (aS S sz)) mc ms (aS S sz)
theorem Ct.mono {y : MethodName} {cc : ByteArray} {nL : Nat} {rt : Option FieldType} {d d2 mc ms : Nat} {vs : List Value} {S : pS} {K : Option Value → pS → Prop} (h : Ct y cc nL rt d mc ms vs S K) (hd : d ≤ d2) : Ct y cc nL rt d2 mc ms vs S K := fun d' h1 => h d' (Nat.le_trans hd h1)
set_option maxHeartbeats 1000000 in
theorem Ct.ofJ {y : MethodName} {cc : ByteArray} {nL : Nat} {rt : Option FieldType} {d mc ms : Nat} {vs : List Value} {S : pS} {K : Option Value → pS → Prop} (hy : plainName y.cls = true) (hn : (lg_sl vs).length ≤ nL) (J : Jd y cc nL rt d mc ms K 0 0 S 0 (argL vs nL) []) : Ct y cc nL rt d mc ms vs S K := by
  intro d' hd l D q sz
  refine Met.ofW (cc := cc) (maxL := nL) (ret := rt) hy rfl ?_
  intro p e s m args below meth c s₁ B hml hv
  obtain ⟨rfl, hsz, hP, hK⟩ := hv
  have hts := atoms_spec (ws := .code y cc nL rt :: wsU) B.pre
  subst hsz
  have hl := lvL.entry vs hn
  rw [lg_entry_eq]
  generalize (lg_sl vs ++ List.replicate (nL - (lg_sl vs).length) Slot.unset).toArray = ls at hl ⊢
  have hA : ∀ x : Nat, s.heap.size ≤ x → aS S s.heap.size x := fun x h => Or.inr h
  refine J p l e (rmJ d' mc ms) s m vs.toArray below meth c D q (aS S s.heap.size) (MQ below (QJ D q K (aS S s.heap.size)) vs.toArray s mc ms (aS S s.heap.size))
    ⟨B.exec, B.bytes, hml, findClass_of_methodNamed B.named, fun w hw => hts w (List.mem_cons_of_mem _ hw), B.returns, B.notSynchronized, fun h => by rw [← h]; exact (name_of_methodNamed B.named B.method).1, hK, hA, hd, Nat.mul_le_mul_left 40 hd, Nat.le_refl _, Nat.le_refl _⟩ ?_ s.heap [] ls (hP.weaken (fun a x hx _ => Or.inl ⟨x, hx⟩)) va_S.rf hl
  intro r S' hr H locs ls pc ins hins hdg hP' hS'
  have hq : ∀ t : State, t.heap = H → s.WarmedH t.vm → QJ D q K (aS S s.heap.size) vs.toArray s (.returned r) t := fun t ht hW => ⟨⟨r, S', rfl, hr, by rw [ht]; exact hP'⟩, hS'.F ht⟩
  have hlocks := B.notSynchronized
  rcases hins with ⟨rfl, h2, rfl⟩ | ⟨rfl, ty, v, h2, rfl, h3⟩ | ⟨rfl, n, a, h2, rfl⟩
  · exact W.vret B.exec B.bytes (B.returns.trans h2) hq hS'.2.2 hdg hlocks
  · exact W.zret B.exec B.bytes (B.returns.trans h2) h3 hq hS'.2.2 hdg hlocks
  · exact W.aret B.exec B.bytes (B.returns.trans h2) (Or.inl ⟨n, rfl⟩) (Or.inr ⟨a, rfl⟩) hq hS'.2.2 hdg hlocks

/-- int values by their number -/
def iI (z : Int) : Int32 := Int32.ofInt z
theorem iI_add (a b : Int) : iI a + iI b = iI (a + b) := (Int32.ofInt_add a b).symm
theorem iI_sub (a b : Int) : iI a - iI b = iI (a - b) := (Int32.ofInt_sub a b).symm
theorem iI_mul (a b : Int) : iI a * iI b = iI (a * b) := (Int32.ofInt_mul a b).symm
theorem iI_neg (a : Int) : - iI a = iI (-a) := (Int32.ofInt_neg a).symm
theorem iI_of (x : Int32) : iI x.toInt = x := Int32.ofInt_toInt x
theorem iI_to {a : Int} (h1 : -2147483648 ≤ a) (h2 : a < 2147483648) : (iI a).toInt = a := Int32.toInt_ofInt_of_le h1 h2
theorem iI_inj {a b : Int} (a1 : -2147483648 ≤ a) (a2 : a < 2147483648) (b1 : -2147483648 ≤ b) (b2 : b < 2147483648) : iI a = iI b ↔ a = b := by
  rw [← Int32.toInt_inj, iI_to a1 a2, iI_to b1 b2]
theorem iI_le {a b : Int} (a1 : -2147483648 ≤ a) (a2 : a < 2147483648) (b1 : -2147483648 ≤ b) (b2 : b < 2147483648) : iI a ≤ iI b ↔ a ≤ b := by
  rw [Int32.le_iff_toInt_le, iI_to a1 a2, iI_to b1 b2]
theorem iI_lt {a b : Int} (a1 : -2147483648 ≤ a) (a2 : a < 2147483648) (b1 : -2147483648 ≤ b) (b2 : b < 2147483648) : iI a < iI b ↔ a < b := by
  rw [Int32.lt_iff_toInt_lt, iI_to a1 a2, iI_to b1 b2]
theorem iI_in {a : Int} {n : Nat} (h1 : 0 ≤ a) (h2 : a < n) (hn : n < 2147483648) : vp_in (iI a) n := by
  rw [vp_in_iff, iI_to (by omega) (by omega)]
  exact ⟨h1, h2⟩
theorem iI_cl {a : Int} (h1 : 0 ≤ a) (h2 : a < 2147483648) : (iI a).toNatClampNeg = a.toNat := Int32.toNatClampNeg_ofInt_of_le (by omega) h2
theorem iI_div {a b : Int} (a1 : 0 ≤ a) (a2 : a < 2147483648) (b1 : 0 < b) (b2 : b < 2147483648) : iI a / iI b = iI (a / b) := by
  have m1 : Int32.minValue.toInt = -2147483648 := by decide
  have m2 : Int32.maxValue.toInt = 2147483647 := by decide
  have h := Int32.ofInt_tdiv (a := a) (b := b) (by omega) (by omega) (by omega) (by omega)
  rw [Int.tdiv_eq_ediv_of_nonneg a1] at h
  exact h.symm
def uZ (f : Int → Int) (z v : Int) : Int → Int := fun j => if j = z then v else f j
def uQ (f : Int → Option Nat) (z : Int) (v : Option Nat) : Int → Option Nat := fun j => if j = z then v else f j
abbrev aI (n : Nat) (f : Int → Int) : pE := oI n (fun k : Nat => iI (f (k : Int)))
abbrev aQ (k n : Nat) (f : Int → Option Nat) : pE := oQ k n (fun j : Nat => f (j : Int))
theorem aI_up (f : Int → Int) {z : Int} (v : Int) (hz : 0 ≤ z) : upd (fun k : Nat => iI (f (k : Int))) z.toNat (iI v) = fun k : Nat => iI (uZ f z v (k : Int)) := by
  funext k
  unfold upd uZ
  by_cases h : k = z.toNat
  · rw [if_pos h, if_pos (by omega)]
  · rw [if_neg h, if_neg (by omega)]
theorem aQ_up (f : Int → Option Nat) {z : Int} (v : Option Nat) (hz : 0 ≤ z) : va_up (fun k : Nat => f (k : Int)) z.toNat v = fun k : Nat => uQ f z v (k : Int) := by
  funext k
  unfold va_up uQ
  by_cases h : k = z.toNat
  · rw [if_pos h, if_pos (by omega)]
  · rw [if_neg h, if_neg (by omega)]

section JR
variable {y : MethodName} {cc : ByteArray} {nL : Nat} {rt : Option FieldType} {d tc ts : Nat} {K : Option Value → pS → Prop} {c0 s0 : Nat} {S : pS} {pc : Nat} {L : List (Option Value)} {st : List Value}
theorem J_iconst {pc1 : Nat} {n : Int} (hd : decode cc pc = .ok (.iconst n, 1)) (hp : pc + 1 = pc1) (k : Jd y cc nL rt d tc ts K c0 s0 S pc1 L (.int (iI n) :: st)) : Jd y cc nL rt d tc ts K c0 s0 S pc L st := by
  intro p l e R s m args below meth c D q A Q C hR H locs ls hP hS hl
  have C0 := C
  obtain ⟨hx, hb, hml, hown, hts, hrt, hlk, hini, hKK, hA, hdf, hdl, htc, hts2⟩ := C
  have hK := hKK.1
  subst hp
  exact lv_iconst hx hb hd rfl (k p l e R s m args below meth c D q A Q C0 hR H locs ls hP hS hl)
theorem J_bipush {pc1 : Nat} {n : Int} (hv : (Int8.ofInt n).toInt32 = iI n) (hd : decode cc pc = .ok (.bipush n, 2)) (hp : pc + 2 = pc1) (k : Jd y cc nL rt d tc ts K c0 s0 S pc1 L (.int (iI n) :: st)) : Jd y cc nL rt d tc ts K c0 s0 S pc L st := by
  intro p l e R s m args below meth c D q A Q C hR H locs ls hP hS hl
  have C0 := C
  obtain ⟨hx, hb, hml, hown, hts, hrt, hlk, hini, hKK, hA, hdf, hdl, htc, hts2⟩ := C
  have hK := hKK.1
  subst hp
  exact lv_bipush hx hb hd hv (k p l e R s m args below meth c D q A Q C0 hR H locs ls hP hS hl)
theorem J_sipush {pc1 : Nat} {n : Int} (hv : (Int16.ofInt n).toInt32 = iI n) (hd : decode cc pc = .ok (.sipush n, 3)) (hp : pc + 3 = pc1) (k : Jd y cc nL rt d tc ts K c0 s0 S pc1 L (.int (iI n) :: st)) : Jd y cc nL rt d tc ts K c0 s0 S pc L st := by
  intro p l e R s m args below meth c D q A Q C hR H locs ls hP hS hl
  have C0 := C
  obtain ⟨hx, hb, hml, hown, hts, hrt, hlk, hini, hKK, hA, hdf, hdl, htc, hts2⟩ := C
  have hK := hKK.1
  subst hp
  exact lv_sipush hx hb hd hv (k p l e R s m args below meth c D q A Q C0 hR H locs ls hP hS hl)
theorem J_lconst {pc1 : Nat} {n : Fin 2} {v : Int64} (hv : Int64.ofNat (n : Nat) = v) (hd : decode cc pc = .ok (.lconst n, 1)) (hp : pc + 1 = pc1) (k : Jd y cc nL rt d tc ts K c0 s0 S pc1 L (.long v :: st)) : Jd y cc nL rt d tc ts K c0 s0 S pc L st := by
  intro p l e R s m args below meth c D q A Q C hR H locs ls hP hS hl
  have C0 := C
  obtain ⟨hx, hb, hml, hown, hts, hrt, hlk, hini, hKK, hA, hdf, hdl, htc, hts2⟩ := C
  have hK := hKK.1
  subst hp
  exact lv_lconst hx hb hd hv (k p l e R s m args below meth c D q A Q C0 hR H locs ls hP hS hl)
theorem J_null {pc1 : Nat}  (hd : decode cc pc = .ok (.aconst_null, 1)) (hp : pc + 1 = pc1) (k : Jd y cc nL rt d tc ts K c0 s0 S pc1 L (.null :: st)) : Jd y cc nL rt d tc ts K c0 s0 S pc L st := by
  intro p l e R s m args below meth c D q A Q C hR H locs ls hP hS hl
  have C0 := C
  obtain ⟨hx, hb, hml, hown, hts, hrt, hlk, hini, hKK, hA, hdf, hdl, htc, hts2⟩ := C
  have hK := hKK.1
  subst hp
  exact lv_null hx hb hd (k p l e R s m args below meth c D q A Q C0 hR H locs ls hP hS hl)
theorem J_ldc2 {pc1 : Nat} {ix : Nat} {v : Int64} (hw : Cond.constantLong y.cls ix v ∈ wsU) (hd : decode cc pc = .ok (.ldc2_w ix, 3)) (hp : pc + 3 = pc1) (k : Jd y cc nL rt d tc ts K c0 s0 S pc1 L (.long v :: st)) : Jd y cc nL rt d tc ts K c0 s0 S pc L st := by
  intro p l e R s m args below meth c D q A Q C hR H locs ls hP hS hl
  have C0 := C
  obtain ⟨hx, hb, hml, hown, hts, hrt, hlk, hini, hKK, hA, hdf, hdl, htc, hts2⟩ := C
  have hK := hKK.1
  subst hp
  exact lv_ldc2 hx hb hown (hts _ hw) hd (k p l e R s m args below meth c D q A Q C0 hR H locs ls hP hS hl)
theorem J_iload_n {pc1 : Nat} {j : Fin 4} {i : Nat} {x : Int32} (hi : (j : Nat) = i) (hL : L[i]? = some (some (.int x))) (hd : decode cc pc = .ok (.iload_n j, 1)) (hp : pc + 1 = pc1) (k : Jd y cc nL rt d tc ts K c0 s0 S pc1 L (.int x :: st)) : Jd y cc nL rt d tc ts K c0 s0 S pc L st := by
  intro p l e R s m args below meth c D q A Q C hR H locs ls hP hS hl
  have C0 := C
  obtain ⟨hx, hb, hml, hown, hts, hrt, hlk, hini, hKK, hA, hdf, hdl, htc, hts2⟩ := C
  have hK := hKK.1
  subst hp
  exact lv_iload_n hx hb hd hi (hl.2.2 i _ hL) (k p l e R s m args below meth c D q A Q C0 hR H locs ls hP hS hl)
theorem J_iload {pc1 : Nat} {i : Nat} {x : Int32} (hL : L[i]? = some (some (.int x))) (hd : decode cc pc = .ok (.iload i, 2)) (hp : pc + 2 = pc1) (k : Jd y cc nL rt d tc ts K c0 s0 S pc1 L (.int x :: st)) : Jd y cc nL rt d tc ts K c0 s0 S pc L st := by
  intro p l e R s m args below meth c D q A Q C hR H locs ls hP hS hl
  have C0 := C
  obtain ⟨hx, hb, hml, hown, hts, hrt, hlk, hini, hKK, hA, hdf, hdl, htc, hts2⟩ := C
  have hK := hKK.1
  subst hp
  exact lv_iload hx hb hd (hl.2.2 i _ hL) (k p l e R s m args below meth c D q A Q C0 hR H locs ls hP hS hl)
theorem J_lload_n {pc1 : Nat} {j : Fin 4} {i : Nat} {x : Int64} (hi : (j : Nat) = i) (hL : L[i]? = some (some (.long x))) (hd : decode cc pc = .ok (.lload_n j, 1)) (hp : pc + 1 = pc1) (k : Jd y cc nL rt d tc ts K c0 s0 S pc1 L (.long x :: st)) : Jd y cc nL rt d tc ts K c0 s0 S pc L st := by
  intro p l e R s m args below meth c D q A Q C hR H locs ls hP hS hl
  have C0 := C
  obtain ⟨hx, hb, hml, hown, hts, hrt, hlk, hini, hKK, hA, hdf, hdl, htc, hts2⟩ := C
  have hK := hKK.1
  subst hp
  exact lv_lload_n hx hb hd hi (hl.2.2 i _ hL) (k p l e R s m args below meth c D q A Q C0 hR H locs ls hP hS hl)
theorem J_lload {pc1 : Nat} {i : Nat} {x : Int64} (hL : L[i]? = some (some (.long x))) (hd : decode cc pc = .ok (.lload i, 2)) (hp : pc + 2 = pc1) (k : Jd y cc nL rt d tc ts K c0 s0 S pc1 L (.long x :: st)) : Jd y cc nL rt d tc ts K c0 s0 S pc L st := by
  intro p l e R s m args below meth c D q A Q C hR H locs ls hP hS hl
  have C0 := C
  obtain ⟨hx, hb, hml, hown, hts, hrt, hlk, hini, hKK, hA, hdf, hdl, htc, hts2⟩ := C
  have hK := hKK.1
  subst hp
  exact lv_lload hx hb hd (hl.2.2 i _ hL) (k p l e R s m args below meth c D q A Q C0 hR H locs ls hP hS hl)
theorem J_aload_n {pc1 : Nat} {j : Fin 4} {i : Nat} {x : Nat} (hi : (j : Nat) = i) (hL : L[i]? = some (some (.ref x))) (hd : decode cc pc = .ok (.aload_n j, 1)) (hp : pc + 1 = pc1) (k : Jd y cc nL rt d tc ts K c0 s0 S pc1 L (.ref x :: st)) : Jd y cc nL rt d tc ts K c0 s0 S pc L st := by
  intro p l e R s m args below meth c D q A Q C hR H locs ls hP hS hl
  have C0 := C
  obtain ⟨hx, hb, hml, hown, hts, hrt, hlk, hini, hKK, hA, hdf, hdl, htc, hts2⟩ := C
  have hK := hKK.1
  subst hp
  exact lv_aload_n hx hb hd hi (hl.2.2 i _ hL) (k p l e R s m args below meth c D q A Q C0 hR H locs ls hP hS hl)
theorem J_aload {pc1 : Nat} {i : Nat} {x : Nat} (hL : L[i]? = some (some (.ref x))) (hd : decode cc pc = .ok (.aload i, 2)) (hp : pc + 2 = pc1) (k : Jd y cc nL rt d tc ts K c0 s0 S pc1 L (.ref x :: st)) : Jd y cc nL rt d tc ts K c0 s0 S pc L st := by
  intro p l e R s m args below meth c D q A Q C hR H locs ls hP hS hl
  have C0 := C
  obtain ⟨hx, hb, hml, hown, hts, hrt, hlk, hini, hKK, hA, hdf, hdl, htc, hts2⟩ := C
  have hK := hKK.1
  subst hp
  exact lv_aload hx hb hd (hl.2.2 i _ hL) (k p l e R s m args below meth c D q A Q C0 hR H locs ls hP hS hl)
theorem J_aload_nN {pc1 : Nat} {j : Fin 4} {i : Nat} (hi : (j : Nat) = i) (hL : L[i]? = some (some .null)) (hd : decode cc pc = .ok (.aload_n j, 1)) (hp : pc + 1 = pc1) (k : Jd y cc nL rt d tc ts K c0 s0 S pc1 L (.null :: st)) : Jd y cc nL rt d tc ts K c0 s0 S pc L st := by
  intro p l e R s m args below meth c D q A Q C hR H locs ls hP hS hl
  have C0 := C
  obtain ⟨hx, hb, hml, hown, hts, hrt, hlk, hini, hKK, hA, hdf, hdl, htc, hts2⟩ := C
  have hK := hKK.1
  subst hp
  exact lv_aload_nN hx hb hd hi (hl.2.2 i _ hL) (k p l e R s m args below meth c D q A Q C0 hR H locs ls hP hS hl)
theorem J_aloadN {pc1 : Nat} {i : Nat} (hL : L[i]? = some (some .null)) (hd : decode cc pc = .ok (.aload i, 2)) (hp : pc + 2 = pc1) (k : Jd y cc nL rt d tc ts K c0 s0 S pc1 L (.null :: st)) : Jd y cc nL rt d tc ts K c0 s0 S pc L st := by
  intro p l e R s m args below meth c D q A Q C hR H locs ls hP hS hl
  have C0 := C
  obtain ⟨hx, hb, hml, hown, hts, hrt, hlk, hini, hKK, hA, hdf, hdl, htc, hts2⟩ := C
  have hK := hKK.1
  subst hp
  exact lv_aloadN hx hb hd (hl.2.2 i _ hL) (k p l e R s m args below meth c D q A Q C0 hR H locs ls hP hS hl)
theorem J_istore_n {pc1 : Nat} {j : Fin 4} {i : Nat} {x : Int32} (hi : (j : Nat) = i) (hd : decode cc pc = .ok (.istore_n j, 1)) (hp : pc + 1 = pc1) (hn : i < nL) (hc : noL L i = true) {L1 : List (Option Value)} (hk1 : (L.set i (some (.int x))) = L1) (k : Jd y cc nL rt d tc ts K c0 s0 S pc1 L1 st) : Jd y cc nL rt d tc ts K c0 s0 S pc L ((.int x) :: st) := by
  intro p l e R s m args below meth c D q A Q C hR H locs ls hP hS hl
  have C0 := C
  obtain ⟨hx, hb, hml, hown, hts, hrt, hlk, hini, hKK, hA, hdf, hdl, htc, hts2⟩ := C
  have hK := hKK.1
  subst hp
  refine lv_istore_n (lv := lvp L) hx hb hd hi hl.has hn rfl (fun ls1 h1 => ?_)
  subst hk1
  exact k p l e R s m args below meth c D q A Q C0 hR H locs ls1 hP hS (lvL.set1 hc h1)
theorem J_istore {pc1 : Nat} {i : Nat} {x : Int32} (hd : decode cc pc = .ok (.istore i, 2)) (hp : pc + 2 = pc1) (hn : i < nL) (hc : noL L i = true) {L1 : List (Option Value)} (hk1 : (L.set i (some (.int x))) = L1) (k : Jd y cc nL rt d tc ts K c0 s0 S pc1 L1 st) : Jd y cc nL rt d tc ts K c0 s0 S pc L ((.int x) :: st) := by
  intro p l e R s m args below meth c D q A Q C hR H locs ls hP hS hl
  have C0 := C
  obtain ⟨hx, hb, hml, hown, hts, hrt, hlk, hini, hKK, hA, hdf, hdl, htc, hts2⟩ := C
  have hK := hKK.1
  subst hp
  refine lv_istore (lv := lvp L) hx hb hd  hl.has hn rfl (fun ls1 h1 => ?_)
  subst hk1
  exact k p l e R s m args below meth c D q A Q C0 hR H locs ls1 hP hS (lvL.set1 hc h1)
theorem J_lstore_n {pc1 : Nat} {j : Fin 4} {i : Nat} {x : Int64} (hi : (j : Nat) = i) (hd : decode cc pc = .ok (.lstore_n j, 1)) (hp : pc + 1 = pc1) (hn : i + 1 < nL) (hc : noL L i = true) {L1 : List (Option Value)} (hk1 : ((L.set i (some (.long x))).set (i + 1) none) = L1) (k : Jd y cc nL rt d tc ts K c0 s0 S pc1 L1 st) : Jd y cc nL rt d tc ts K c0 s0 S pc L ((.long x) :: st) := by
  intro p l e R s m args below meth c D q A Q C hR H locs ls hP hS hl
  have C0 := C
  obtain ⟨hx, hb, hml, hown, hts, hrt, hlk, hini, hKK, hA, hdf, hdl, htc, hts2⟩ := C
  have hK := hKK.1
  subst hp
  refine lv_lstore_n (lv := lvp L) hx hb hd hi hl.has hn rfl (fun ls1 h1 => ?_)
  subst hk1
  exact k p l e R s m args below meth c D q A Q C0 hR H locs ls1 hP hS (lvL.set2 hc h1)
theorem J_lstore {pc1 : Nat} {i : Nat} {x : Int64} (hd : decode cc pc = .ok (.lstore i, 2)) (hp : pc + 2 = pc1) (hn : i + 1 < nL) (hc : noL L i = true) {L1 : List (Option Value)} (hk1 : ((L.set i (some (.long x))).set (i + 1) none) = L1) (k : Jd y cc nL rt d tc ts K c0 s0 S pc1 L1 st) : Jd y cc nL rt d tc ts K c0 s0 S pc L ((.long x) :: st) := by
  intro p l e R s m args below meth c D q A Q C hR H locs ls hP hS hl
  have C0 := C
  obtain ⟨hx, hb, hml, hown, hts, hrt, hlk, hini, hKK, hA, hdf, hdl, htc, hts2⟩ := C
  have hK := hKK.1
  subst hp
  refine lv_lstore (lv := lvp L) hx hb hd  hl.has hn rfl (fun ls1 h1 => ?_)
  subst hk1
  exact k p l e R s m args below meth c D q A Q C0 hR H locs ls1 hP hS (lvL.set2 hc h1)
theorem J_astore_n {pc1 : Nat} {j : Fin 4} {i : Nat} {x : Nat} (hi : (j : Nat) = i) (hd : decode cc pc = .ok (.astore_n j, 1)) (hp : pc + 1 = pc1) (hn : i < nL) (hc : noL L i = true) {L1 : List (Option Value)} (hk1 : (L.set i (some (.ref x))) = L1) (k : Jd y cc nL rt d tc ts K c0 s0 S pc1 L1 st) : Jd y cc nL rt d tc ts K c0 s0 S pc L ((.ref x) :: st) := by
  intro p l e R s m args below meth c D q A Q C hR H locs ls hP hS hl
  have C0 := C
  obtain ⟨hx, hb, hml, hown, hts, hrt, hlk, hini, hKK, hA, hdf, hdl, htc, hts2⟩ := C
  have hK := hKK.1
  subst hp
  refine lv_astore_n (lv := lvp L) hx hb hd hi hl.has hn rfl (fun ls1 h1 => ?_)
  subst hk1
  exact k p l e R s m args below meth c D q A Q C0 hR H locs ls1 hP hS (lvL.set1 hc h1)
theorem J_astore {pc1 : Nat} {i : Nat} {x : Nat} (hd : decode cc pc = .ok (.astore i, 2)) (hp : pc + 2 = pc1) (hn : i < nL) (hc : noL L i = true) {L1 : List (Option Value)} (hk1 : (L.set i (some (.ref x))) = L1) (k : Jd y cc nL rt d tc ts K c0 s0 S pc1 L1 st) : Jd y cc nL rt d tc ts K c0 s0 S pc L ((.ref x) :: st) := by
  intro p l e R s m args below meth c D q A Q C hR H locs ls hP hS hl
  have C0 := C
  obtain ⟨hx, hb, hml, hown, hts, hrt, hlk, hini, hKK, hA, hdf, hdl, htc, hts2⟩ := C
  have hK := hKK.1
  subst hp
  refine lv_astore (lv := lvp L) hx hb hd  hl.has hn rfl (fun ls1 h1 => ?_)
  subst hk1
  exact k p l e R s m args below meth c D q A Q C0 hR H locs ls1 hP hS (lvL.set1 hc h1)
theorem J_astore_nN {pc1 : Nat} {j : Fin 4} {i : Nat} (hi : (j : Nat) = i) (hd : decode cc pc = .ok (.astore_n j, 1)) (hp : pc + 1 = pc1) (hn : i < nL) (hc : noL L i = true) {L1 : List (Option Value)} (hk1 : (L.set i (some .null)) = L1) (k : Jd y cc nL rt d tc ts K c0 s0 S pc1 L1 st) : Jd y cc nL rt d tc ts K c0 s0 S pc L (.null :: st) := by
  intro p l e R s m args below meth c D q A Q C hR H locs ls hP hS hl
  have C0 := C
  obtain ⟨hx, hb, hml, hown, hts, hrt, hlk, hini, hKK, hA, hdf, hdl, htc, hts2⟩ := C
  have hK := hKK.1
  subst hp
  refine lv_astore_nN (lv := lvp L) hx hb hd hi hl.has hn rfl (fun ls1 h1 => ?_)
  subst hk1
  exact k p l e R s m args below meth c D q A Q C0 hR H locs ls1 hP hS (lvL.set1 hc h1)
theorem J_astoreN {pc1 : Nat} {i : Nat} (hd : decode cc pc = .ok (.astore i, 2)) (hp : pc + 2 = pc1) (hn : i < nL) (hc : noL L i = true) {L1 : List (Option Value)} (hk1 : (L.set i (some .null)) = L1) (k : Jd y cc nL rt d tc ts K c0 s0 S pc1 L1 st) : Jd y cc nL rt d tc ts K c0 s0 S pc L (.null :: st) := by
  intro p l e R s m args below meth c D q A Q C hR H locs ls hP hS hl
  have C0 := C
  obtain ⟨hx, hb, hml, hown, hts, hrt, hlk, hini, hKK, hA, hdf, hdl, htc, hts2⟩ := C
  have hK := hKK.1
  subst hp
  refine lv_astoreN (lv := lvp L) hx hb hd  hl.has hn rfl (fun ls1 h1 => ?_)
  subst hk1
  exact k p l e R s m args below meth c D q A Q C0 hR H locs ls1 hP hS (lvL.set1 hc h1)
theorem J_iinc {pc1 i : Nat} {n a : Int} (hd : decode cc pc = .ok (.iinc i n, 3)) (hp : pc + 3 = pc1) (hL : L[i]? = some (some (.int (iI a)))) (hn : i < nL) (hc : noL L i = true) {L1 : List (Option Value)} (hk1 : L.set i (some (.int (iI (a + n)))) = L1) (k : Jd y cc nL rt d tc ts K c0 s0 S pc1 L1 st) : Jd y cc nL rt d tc ts K c0 s0 S pc L st := by
  intro p l e R s m args below meth c D q A Q C hR H locs ls hP hS hl
  have C0 := C
  obtain ⟨hx, hb, hml, hown, hts, hrt, hlk, hini, hKK, hA, hdf, hdl, htc, hts2⟩ := C
  have hK := hKK.1
  subst hp
  subst hk1
  obtain ⟨kk, hkk⟩ := List.getElem?_of_mem (lvp_mem.mpr hL)
  exact lv_iinc (lv := lvp L) (v := iI (a + n)) hx hb hd hl.has hkk (iI_add a n) hn rfl (fun ls1 h1 => k p l e R s m args below meth c D q A Q C0 hR H locs ls1 hP hS (lvL.set1 hc h1))
theorem J_iadd {pc1 : Nat} {a b : Int} (hd : decode cc pc = .ok (.iadd, 1)) (hp : pc + 1 = pc1) (k : Jd y cc nL rt d tc ts K c0 s0 S pc1 L (.int (iI (a + b)) :: st)) : Jd y cc nL rt d tc ts K c0 s0 S pc L (.int (iI b) :: .int (iI a) :: st) := by
  intro p l e R s m args below meth c D q A Q C hR H locs ls hP hS hl
  have C0 := C
  obtain ⟨hx, hb, hml, hown, hts, hrt, hlk, hini, hKK, hA, hdf, hdl, htc, hts2⟩ := C
  have hK := hKK.1
  subst hp
  refine lv_iadd hx hb hd ?_
  rw [iI_add]
  exact k p l e R s m args below meth c D q A Q C0 hR H locs ls hP hS hl
theorem J_isub {pc1 : Nat} {a b : Int} (hd : decode cc pc = .ok (.isub, 1)) (hp : pc + 1 = pc1) (k : Jd y cc nL rt d tc ts K c0 s0 S pc1 L (.int (iI (a - b)) :: st)) : Jd y cc nL rt d tc ts K c0 s0 S pc L (.int (iI b) :: .int (iI a) :: st) := by
  intro p l e R s m args below meth c D q A Q C hR H locs ls hP hS hl
  have C0 := C
  obtain ⟨hx, hb, hml, hown, hts, hrt, hlk, hini, hKK, hA, hdf, hdl, htc, hts2⟩ := C
  have hK := hKK.1
  subst hp
  refine lv_isub hx hb hd ?_
  rw [iI_sub]
  exact k p l e R s m args below meth c D q A Q C0 hR H locs ls hP hS hl
theorem J_imul {pc1 : Nat} {a b : Int} (hd : decode cc pc = .ok (.imul, 1)) (hp : pc + 1 = pc1) (k : Jd y cc nL rt d tc ts K c0 s0 S pc1 L (.int (iI (a * b)) :: st)) : Jd y cc nL rt d tc ts K c0 s0 S pc L (.int (iI b) :: .int (iI a) :: st) := by
  intro p l e R s m args below meth c D q A Q C hR H locs ls hP hS hl
  have C0 := C
  obtain ⟨hx, hb, hml, hown, hts, hrt, hlk, hini, hKK, hA, hdf, hdl, htc, hts2⟩ := C
  have hK := hKK.1
  subst hp
  refine lv_imul hx hb hd ?_
  rw [iI_mul]
  exact k p l e R s m args below meth c D q A Q C0 hR H locs ls hP hS hl
theorem J_ineg {pc1 : Nat} {a : Int} (hd : decode cc pc = .ok (.ineg, 1)) (hp : pc + 1 = pc1) (k : Jd y cc nL rt d tc ts K c0 s0 S pc1 L (.int (iI (-a)) :: st)) : Jd y cc nL rt d tc ts K c0 s0 S pc L (.int (iI a) :: st) := by
  intro p l e R s m args below meth c D q A Q C hR H locs ls hP hS hl
  have C0 := C
  obtain ⟨hx, hb, hml, hown, hts, hrt, hlk, hini, hKK, hA, hdf, hdl, htc, hts2⟩ := C
  have hK := hKK.1
  subst hp
  refine lv_ineg hx hb hd ?_
  rw [iI_neg]
  exact k p l e R s m args below meth c D q A Q C0 hR H locs ls hP hS hl
theorem J_idiv {pc1 : Nat} {a b : Int} (a1 : 0 ≤ a) (a2 : a < 2147483648) (b1 : 0 < b) (b2 : b < 2147483648) (hd : decode cc pc = .ok (.idiv, 1)) (hp : pc + 1 = pc1) (k : Jd y cc nL rt d tc ts K c0 s0 S pc1 L (.int (iI (a / b)) :: st)) : Jd y cc nL rt d tc ts K c0 s0 S pc L (.int (iI b) :: .int (iI a) :: st) := by
  intro p l e R s m args below meth c D q A Q C hR H locs ls hP hS hl
  have C0 := C
  obtain ⟨hx, hb, hml, hown, hts, hrt, hlk, hini, hKK, hA, hdf, hdl, htc, hts2⟩ := C
  have hK := hKK.1
  subst hp
  refine lv_idiv hx hb hd (fun h0 => ?_) ?_
  · have := (iI_inj (a := b) (b := 0) (by omega) b2 (by omega) (by omega)).mp h0
    omega
  · rw [iI_div a1 a2 b1 b2]
    exact k p l e R s m args below meth c D q A Q C0 hR H locs ls hP hS hl
theorem J_irem {pc1 : Nat} {a b : Int} (a1 : 0 ≤ a) (a2 : a < 2147483648) (b1 : 0 < b) (b2 : b < 2147483648) (hd : decode cc pc = .ok (.irem, 1)) (hp : pc + 1 = pc1) (k : Jd y cc nL rt d tc ts K c0 s0 S pc1 L (.int (iI (a % b)) :: st)) : Jd y cc nL rt d tc ts K c0 s0 S pc L (.int (iI b) :: .int (iI a) :: st) := by
  intro p l e R s m args below meth c D q A Q C hR H locs ls hP hS hl
  have C0 := C
  obtain ⟨hx, hb, hml, hown, hts, hrt, hlk, hini, hKK, hA, hdf, hdl, htc, hts2⟩ := C
  have hK := hKK.1
  subst hp
  refine lv_irem hx hb hd (fun h0 => ?_) ?_
  · have := (iI_inj (a := b) (b := 0) (by omega) b2 (by omega) (by omega)).mp h0
    omega
  · rw [iI_div a1 a2 b1 b2, iI_mul, iI_sub, show a - a / b * b = a % b by rw [Int.emod_def, Int.mul_comm]]
    exact k p l e R s m args below meth c D q A Q C0 hR H locs ls hP hS hl
theorem J_land {pc1 : Nat} {a b : Int64} (hd : decode cc pc = .ok (.land, 1)) (hp : pc + 1 = pc1) (k : Jd y cc nL rt d tc ts K c0 s0 S pc1 L (.long (a &&& b) :: st)) : Jd y cc nL rt d tc ts K c0 s0 S pc L (.long b :: .long a :: st) := by
  intro p l e R s m args below meth c D q A Q C hR H locs ls hP hS hl
  have C0 := C
  obtain ⟨hx, hb, hml, hown, hts, hrt, hlk, hini, hKK, hA, hdf, hdl, htc, hts2⟩ := C
  have hK := hKK.1
  subst hp
  exact lv_land hx hb hd (k p l e R s m args below meth c D q A Q C0 hR H locs ls hP hS hl)
theorem J_lor {pc1 : Nat} {a b : Int64} (hd : decode cc pc = .ok (.lor, 1)) (hp : pc + 1 = pc1) (k : Jd y cc nL rt d tc ts K c0 s0 S pc1 L (.long (a ||| b) :: st)) : Jd y cc nL rt d tc ts K c0 s0 S pc L (.long b :: .long a :: st) := by
  intro p l e R s m args below meth c D q A Q C hR H locs ls hP hS hl
  have C0 := C
  obtain ⟨hx, hb, hml, hown, hts, hrt, hlk, hini, hKK, hA, hdf, hdl, htc, hts2⟩ := C
  have hK := hKK.1
  subst hp
  exact lv_lor hx hb hd (k p l e R s m args below meth c D q A Q C0 hR H locs ls hP hS hl)
theorem J_ladd {pc1 : Nat} {a b : Int64} (hd : decode cc pc = .ok (.ladd, 1)) (hp : pc + 1 = pc1) (k : Jd y cc nL rt d tc ts K c0 s0 S pc1 L (.long (a + b) :: st)) : Jd y cc nL rt d tc ts K c0 s0 S pc L (.long b :: .long a :: st) := by
  intro p l e R s m args below meth c D q A Q C hR H locs ls hP hS hl
  have C0 := C
  obtain ⟨hx, hb, hml, hown, hts, hrt, hlk, hini, hKK, hA, hdf, hdl, htc, hts2⟩ := C
  have hK := hKK.1
  subst hp
  exact lv_ladd hx hb hd (k p l e R s m args below meth c D q A Q C0 hR H locs ls hP hS hl)
theorem J_lsub {pc1 : Nat} {a b : Int64} (hd : decode cc pc = .ok (.lsub, 1)) (hp : pc + 1 = pc1) (k : Jd y cc nL rt d tc ts K c0 s0 S pc1 L (.long (a - b) :: st)) : Jd y cc nL rt d tc ts K c0 s0 S pc L (.long b :: .long a :: st) := by
  intro p l e R s m args below meth c D q A Q C hR H locs ls hP hS hl
  have C0 := C
  obtain ⟨hx, hb, hml, hown, hts, hrt, hlk, hini, hKK, hA, hdf, hdl, htc, hts2⟩ := C
  have hK := hKK.1
  subst hp
  exact lv_lsub hx hb hd (k p l e R s m args below meth c D q A Q C0 hR H locs ls hP hS hl)
theorem J_iand {pc1 : Nat} {a b : Int32} (hd : decode cc pc = .ok (.iand, 1)) (hp : pc + 1 = pc1) (k : Jd y cc nL rt d tc ts K c0 s0 S pc1 L (.int (a &&& b) :: st)) : Jd y cc nL rt d tc ts K c0 s0 S pc L (.int b :: .int a :: st) := by
  intro p l e R s m args below meth c D q A Q C hR H locs ls hP hS hl
  have C0 := C
  obtain ⟨hx, hb, hml, hown, hts, hrt, hlk, hini, hKK, hA, hdf, hdl, htc, hts2⟩ := C
  have hK := hKK.1
  subst hp
  exact lv_iand hx hb hd (k p l e R s m args below meth c D q A Q C0 hR H locs ls hP hS hl)
theorem J_ior {pc1 : Nat} {a b : Int32} (hd : decode cc pc = .ok (.ior, 1)) (hp : pc + 1 = pc1) (k : Jd y cc nL rt d tc ts K c0 s0 S pc1 L (.int (a ||| b) :: st)) : Jd y cc nL rt d tc ts K c0 s0 S pc L (.int b :: .int a :: st) := by
  intro p l e R s m args below meth c D q A Q C hR H locs ls hP hS hl
  have C0 := C
  obtain ⟨hx, hb, hml, hown, hts, hrt, hlk, hini, hKK, hA, hdf, hdl, htc, hts2⟩ := C
  have hK := hKK.1
  subst hp
  exact lv_ior hx hb hd (k p l e R s m args below meth c D q A Q C0 hR H locs ls hP hS hl)
theorem J_lushr {pc1 : Nat} {a v : Int64} {b : Int32} (hv : (a.toUInt64 >>> (b.toInt64.toUInt64 &&& Int64.toUInt64 63)).toInt64 = v) (hd : decode cc pc = .ok (.lushr, 1)) (hp : pc + 1 = pc1) (k : Jd y cc nL rt d tc ts K c0 s0 S pc1 L (.long v :: st)) : Jd y cc nL rt d tc ts K c0 s0 S pc L (.int b :: .long a :: st) := by
  intro p l e R s m args below meth c D q A Q C hR H locs ls hP hS hl
  have C0 := C
  obtain ⟨hx, hb, hml, hown, hts, hrt, hlk, hini, hKK, hA, hdf, hdl, htc, hts2⟩ := C
  have hK := hKK.1
  subst hp
  exact lv_lushr hx hb hd hv (k p l e R s m args below meth c D q A Q C0 hR H locs ls hP hS hl)
theorem J_lshl {pc1 : Nat} {a v : Int64} {b : Int32} (hv : a <<< (b.toInt64 &&& 63) = v) (hd : decode cc pc = .ok (.lshl, 1)) (hp : pc + 1 = pc1) (k : Jd y cc nL rt d tc ts K c0 s0 S pc1 L (.long v :: st)) : Jd y cc nL rt d tc ts K c0 s0 S pc L (.int b :: .long a :: st) := by
  intro p l e R s m args below meth c D q A Q C hR H locs ls hP hS hl
  have C0 := C
  obtain ⟨hx, hb, hml, hown, hts, hrt, hlk, hini, hKK, hA, hdf, hdl, htc, hts2⟩ := C
  have hK := hKK.1
  subst hp
  exact lv_lshl hx hb hd hv (k p l e R s m args below meth c D q A Q C0 hR H locs ls hP hS hl)
theorem J_i2l {pc1 : Nat} {x : Int32} (hd : decode cc pc = .ok (.i2l, 1)) (hp : pc + 1 = pc1) (k : Jd y cc nL rt d tc ts K c0 s0 S pc1 L (.long x.toInt64 :: st)) : Jd y cc nL rt d tc ts K c0 s0 S pc L (.int x :: st) := by
  intro p l e R s m args below meth c D q A Q C hR H locs ls hP hS hl
  have C0 := C
  obtain ⟨hx, hb, hml, hown, hts, hrt, hlk, hini, hKK, hA, hdf, hdl, htc, hts2⟩ := C
  have hK := hKK.1
  subst hp
  exact lv_i2l hx hb hd rfl (k p l e R s m args below meth c D q A Q C0 hR H locs ls hP hS hl)
theorem J_l2i {pc1 : Nat} {x : Int64} (hd : decode cc pc = .ok (.l2i, 1)) (hp : pc + 1 = pc1) (k : Jd y cc nL rt d tc ts K c0 s0 S pc1 L (.int x.toInt32 :: st)) : Jd y cc nL rt d tc ts K c0 s0 S pc L (.long x :: st) := by
  intro p l e R s m args below meth c D q A Q C hR H locs ls hP hS hl
  have C0 := C
  obtain ⟨hx, hb, hml, hown, hts, hrt, hlk, hini, hKK, hA, hdf, hdl, htc, hts2⟩ := C
  have hK := hKK.1
  subst hp
  exact lv_l2i hx hb hd rfl (k p l e R s m args below meth c D q A Q C0 hR H locs ls hP hS hl)
theorem J_lcmp {pc1 : Nat} {a b : Int64} {v : Int32} (hv : lg_cmp a b = v) (hd : decode cc pc = .ok (.lcmp, 1)) (hp : pc + 1 = pc1) (k : Jd y cc nL rt d tc ts K c0 s0 S pc1 L (.int v :: st)) : Jd y cc nL rt d tc ts K c0 s0 S pc L (.long b :: .long a :: st) := by
  intro p l e R s m args below meth c D q A Q C hR H locs ls hP hS hl
  have C0 := C
  obtain ⟨hx, hb, hml, hown, hts, hrt, hlk, hini, hKK, hA, hdf, hdl, htc, hts2⟩ := C
  have hK := hKK.1
  subst hp
  refine W.lcmp hx hb hd ?_
  exact (show lg_cmp a b = v from hv) ▸ k p l e R s m args below meth c D q A Q C0 hR H locs ls hP hS hl
theorem J_dup {pc1 : Nat} {v : Value} (hv : v.category = 1) (hd : decode cc pc = .ok (.dup, 1)) (hp : pc + 1 = pc1) (k : Jd y cc nL rt d tc ts K c0 s0 S pc1 L (v :: v :: st)) : Jd y cc nL rt d tc ts K c0 s0 S pc L (v :: st) := by
  intro p l e R s m args below meth c D q A Q C hR H locs ls hP hS hl
  have C0 := C
  obtain ⟨hx, hb, hml, hown, hts, hrt, hlk, hini, hKK, hA, hdf, hdl, htc, hts2⟩ := C
  have hK := hKK.1
  subst hp
  exact lv_dup hx hb hd hv (k p l e R s m args below meth c D q A Q C0 hR H locs ls hP hS hl)
theorem J_pop {pc1 : Nat} {v : Value} (hv : v.category = 1) (hd : decode cc pc = .ok (.pop, 1)) (hp : pc + 1 = pc1) (k : Jd y cc nL rt d tc ts K c0 s0 S pc1 L st) : Jd y cc nL rt d tc ts K c0 s0 S pc L (v :: st) := by
  intro p l e R s m args below meth c D q A Q C hR H locs ls hP hS hl
  have C0 := C
  obtain ⟨hx, hb, hml, hown, hts, hrt, hlk, hini, hKK, hA, hdf, hdl, htc, hts2⟩ := C
  have hK := hKK.1
  subst hp
  exact lv_pop hx hb hd hv (k p l e R s m args below meth c D q A Q C0 hR H locs ls hP hS hl)
theorem J_dup2 {pc1 : Nat} {v w : Value} (hv : v.category = 1) (hw : w.category = 1) (hd : decode cc pc = .ok (.dup2, 1)) (hp : pc + 1 = pc1) (k : Jd y cc nL rt d tc ts K c0 s0 S pc1 L (v :: w :: v :: w :: st)) : Jd y cc nL rt d tc ts K c0 s0 S pc L (v :: w :: st) := by
  intro p l e R s m args below meth c D q A Q C hR H locs ls hP hS hl
  have C0 := C
  obtain ⟨hx, hb, hml, hown, hts, hrt, hlk, hini, hKK, hA, hdf, hdl, htc, hts2⟩ := C
  have hK := hKK.1
  subst hp
  exact lv_dup2_11 hx hb hd hv hw (k p l e R s m args below meth c D q A Q C0 hR H locs ls hP hS hl)
theorem J_goto {off : Int} {tgt : Nat} (hd : decode cc pc = .ok (.goto off, 3)) (ht : (pc : Int) + off = (tgt : Int)) (k : Jd y cc nL rt d tc ts K c0 s0 S tgt L st) : Jd y cc nL rt d tc ts K c0 s0 S pc L st := by
  intro p l e R s m args below meth c D q A Q C hR H locs ls hP hS hl
  have C0 := C
  obtain ⟨hx, hb, hml, hown, hts, hrt, hlk, hini, hKK, hA, hdf, hdl, htc, hts2⟩ := C
  have hK := hKK.1
  exact lv_goto hx hb hd ht (k p l e R s m args below meth c D q A Q C0 hR H locs ls hP hS hl)
theorem J_if_eq {off : Int} {tgt pc1 : Nat} {a : Int} (a1 : -2147483648 ≤ a) (a2 : a < 2147483648) (hd : decode cc pc = .ok (.ifCond .eq off, 3)) (ht : (pc : Int) + off = (tgt : Int)) (hp : pc + 3 = pc1) (kt : a = 0 → Jd y cc nL rt d tc ts K c0 s0 S tgt L st) (kf : ¬ a = 0 → Jd y cc nL rt d tc ts K c0 s0 S pc1 L st) : Jd y cc nL rt d tc ts K c0 s0 S pc L (.int (iI a) :: st) := by
  intro p l e R s m args below meth c D q A Q C hR H locs ls hP hS hl
  have C0 := C
  obtain ⟨hx, hb, hml, hown, hts, hrt, hlk, hini, hKK, hA, hdf, hdl, htc, hts2⟩ := C
  have hK := hKK.1
  subst hp
  exact lv_if_eq hx hb hd ht (fun h9 => kt ((iI_inj (a := a) (b := 0) a1 a2 (by omega) (by omega)).mp h9) p l e R s m args below meth c D q A Q C0 hR H locs ls hP hS hl) (fun h9 => kf (fun z => h9 ((iI_inj (a := a) (b := 0) a1 a2 (by omega) (by omega)).mpr z)) p l e R s m args below meth c D q A Q C0 hR H locs ls hP hS hl)
theorem J_icmp_eq {off : Int} {tgt pc1 : Nat} {a b : Int} (a1 : -2147483648 ≤ a) (a2 : a < 2147483648) (b1 : -2147483648 ≤ b) (b2 : b < 2147483648) (hd : decode cc pc = .ok (.if_icmp .eq off, 3)) (ht : (pc : Int) + off = (tgt : Int)) (hp : pc + 3 = pc1) (kt : a = b → Jd y cc nL rt d tc ts K c0 s0 S tgt L st) (kf : ¬ a = b → Jd y cc nL rt d tc ts K c0 s0 S pc1 L st) : Jd y cc nL rt d tc ts K c0 s0 S pc L (.int (iI b) :: .int (iI a) :: st) := by
  intro p l e R s m args below meth c D q A Q C hR H locs ls hP hS hl
  have C0 := C
  obtain ⟨hx, hb, hml, hown, hts, hrt, hlk, hini, hKK, hA, hdf, hdl, htc, hts2⟩ := C
  have hK := hKK.1
  subst hp
  exact lv_icmp_eq hx hb hd ht (fun h9 => kt ((iI_inj (a := a) (b := b) a1 a2 b1 b2).mp h9) p l e R s m args below meth c D q A Q C0 hR H locs ls hP hS hl) (fun h9 => kf (fun z => h9 ((iI_inj (a := a) (b := b) a1 a2 b1 b2).mpr z)) p l e R s m args below meth c D q A Q C0 hR H locs ls hP hS hl)
theorem J_if_ne {off : Int} {tgt pc1 : Nat} {a : Int} (a1 : -2147483648 ≤ a) (a2 : a < 2147483648) (hd : decode cc pc = .ok (.ifCond .ne off, 3)) (ht : (pc : Int) + off = (tgt : Int)) (hp : pc + 3 = pc1) (kt : ¬ a = 0 → Jd y cc nL rt d tc ts K c0 s0 S tgt L st) (kf : a = 0 → Jd y cc nL rt d tc ts K c0 s0 S pc1 L st) : Jd y cc nL rt d tc ts K c0 s0 S pc L (.int (iI a) :: st) := by
  intro p l e R s m args below meth c D q A Q C hR H locs ls hP hS hl
  have C0 := C
  obtain ⟨hx, hb, hml, hown, hts, hrt, hlk, hini, hKK, hA, hdf, hdl, htc, hts2⟩ := C
  have hK := hKK.1
  subst hp
  exact lv_if_ne hx hb hd ht (fun h9 => kt (fun z => h9 ((iI_inj (a := a) (b := 0) a1 a2 (by omega) (by omega)).mpr z)) p l e R s m args below meth c D q A Q C0 hR H locs ls hP hS hl) (fun h9 => kf ((iI_inj (a := a) (b := 0) a1 a2 (by omega) (by omega)).mp h9) p l e R s m args below meth c D q A Q C0 hR H locs ls hP hS hl)
theorem J_icmp_ne {off : Int} {tgt pc1 : Nat} {a b : Int} (a1 : -2147483648 ≤ a) (a2 : a < 2147483648) (b1 : -2147483648 ≤ b) (b2 : b < 2147483648) (hd : decode cc pc = .ok (.if_icmp .ne off, 3)) (ht : (pc : Int) + off = (tgt : Int)) (hp : pc + 3 = pc1) (kt : ¬ a = b → Jd y cc nL rt d tc ts K c0 s0 S tgt L st) (kf : a = b → Jd y cc nL rt d tc ts K c0 s0 S pc1 L st) : Jd y cc nL rt d tc ts K c0 s0 S pc L (.int (iI b) :: .int (iI a) :: st) := by
  intro p l e R s m args below meth c D q A Q C hR H locs ls hP hS hl
  have C0 := C
  obtain ⟨hx, hb, hml, hown, hts, hrt, hlk, hini, hKK, hA, hdf, hdl, htc, hts2⟩ := C
  have hK := hKK.1
  subst hp
  exact lv_icmp_ne hx hb hd ht (fun h9 => kt (fun z => h9 ((iI_inj (a := a) (b := b) a1 a2 b1 b2).mpr z)) p l e R s m args below meth c D q A Q C0 hR H locs ls hP hS hl) (fun h9 => kf ((iI_inj (a := a) (b := b) a1 a2 b1 b2).mp h9) p l e R s m args below meth c D q A Q C0 hR H locs ls hP hS hl)
theorem J_if_lt {off : Int} {tgt pc1 : Nat} {a : Int} (a1 : -2147483648 ≤ a) (a2 : a < 2147483648) (hd : decode cc pc = .ok (.ifCond .lt off, 3)) (ht : (pc : Int) + off = (tgt : Int)) (hp : pc + 3 = pc1) (kt : a < 0 → Jd y cc nL rt d tc ts K c0 s0 S tgt L st) (kf : ¬ a < 0 → Jd y cc nL rt d tc ts K c0 s0 S pc1 L st) : Jd y cc nL rt d tc ts K c0 s0 S pc L (.int (iI a) :: st) := by
  intro p l e R s m args below meth c D q A Q C hR H locs ls hP hS hl
  have C0 := C
  obtain ⟨hx, hb, hml, hown, hts, hrt, hlk, hini, hKK, hA, hdf, hdl, htc, hts2⟩ := C
  have hK := hKK.1
  subst hp
  exact lv_if_lt hx hb hd ht (fun h9 => kt ((iI_lt (a := a) (b := 0) a1 a2 (by omega) (by omega)).mp h9) p l e R s m args below meth c D q A Q C0 hR H locs ls hP hS hl) (fun h9 => kf (fun z => h9 ((iI_lt (a := a) (b := 0) a1 a2 (by omega) (by omega)).mpr z)) p l e R s m args below meth c D q A Q C0 hR H locs ls hP hS hl)
theorem J_icmp_lt {off : Int} {tgt pc1 : Nat} {a b : Int} (a1 : -2147483648 ≤ a) (a2 : a < 2147483648) (b1 : -2147483648 ≤ b) (b2 : b < 2147483648) (hd : decode cc pc = .ok (.if_icmp .lt off, 3)) (ht : (pc : Int) + off = (tgt : Int)) (hp : pc + 3 = pc1) (kt : a < b → Jd y cc nL rt d tc ts K c0 s0 S tgt L st) (kf : ¬ a < b → Jd y cc nL rt d tc ts K c0 s0 S pc1 L st) : Jd y cc nL rt d tc ts K c0 s0 S pc L (.int (iI b) :: .int (iI a) :: st) := by
  intro p l e R s m args below meth c D q A Q C hR H locs ls hP hS hl
  have C0 := C
  obtain ⟨hx, hb, hml, hown, hts, hrt, hlk, hini, hKK, hA, hdf, hdl, htc, hts2⟩ := C
  have hK := hKK.1
  subst hp
  exact lv_icmp_lt hx hb hd ht (fun h9 => kt ((iI_lt (a := a) (b := b) a1 a2 b1 b2).mp h9) p l e R s m args below meth c D q A Q C0 hR H locs ls hP hS hl) (fun h9 => kf (fun z => h9 ((iI_lt (a := a) (b := b) a1 a2 b1 b2).mpr z)) p l e R s m args below meth c D q A Q C0 hR H locs ls hP hS hl)
theorem J_if_ge {off : Int} {tgt pc1 : Nat} {a : Int} (a1 : -2147483648 ≤ a) (a2 : a < 2147483648) (hd : decode cc pc = .ok (.ifCond .ge off, 3)) (ht : (pc : Int) + off = (tgt : Int)) (hp : pc + 3 = pc1) (kt : 0 ≤ a → Jd y cc nL rt d tc ts K c0 s0 S tgt L st) (kf : ¬ 0 ≤ a → Jd y cc nL rt d tc ts K c0 s0 S pc1 L st) : Jd y cc nL rt d tc ts K c0 s0 S pc L (.int (iI a) :: st) := by
  intro p l e R s m args below meth c D q A Q C hR H locs ls hP hS hl
  have C0 := C
  obtain ⟨hx, hb, hml, hown, hts, hrt, hlk, hini, hKK, hA, hdf, hdl, htc, hts2⟩ := C
  have hK := hKK.1
  subst hp
  exact lv_if_ge hx hb hd ht (fun h9 => kt ((iI_le (a := 0) (b := a) (by omega) (by omega) a1 a2).mp h9) p l e R s m args below meth c D q A Q C0 hR H locs ls hP hS hl) (fun h9 => kf (fun z => h9 ((iI_le (a := 0) (b := a) (by omega) (by omega) a1 a2).mpr z)) p l e R s m args below meth c D q A Q C0 hR H locs ls hP hS hl)
theorem J_icmp_ge {off : Int} {tgt pc1 : Nat} {a b : Int} (a1 : -2147483648 ≤ a) (a2 : a < 2147483648) (b1 : -2147483648 ≤ b) (b2 : b < 2147483648) (hd : decode cc pc = .ok (.if_icmp .ge off, 3)) (ht : (pc : Int) + off = (tgt : Int)) (hp : pc + 3 = pc1) (kt : b ≤ a → Jd y cc nL rt d tc ts K c0 s0 S tgt L st) (kf : ¬ b ≤ a → Jd y cc nL rt d tc ts K c0 s0 S pc1 L st) : Jd y cc nL rt d tc ts K c0 s0 S pc L (.int (iI b) :: .int (iI a) :: st) := by
  intro p l e R s m args below meth c D q A Q C hR H locs ls hP hS hl
  have C0 := C
  obtain ⟨hx, hb, hml, hown, hts, hrt, hlk, hini, hKK, hA, hdf, hdl, htc, hts2⟩ := C
  have hK := hKK.1
  subst hp
  exact lv_icmp_ge hx hb hd ht (fun h9 => kt ((iI_le (a := b) (b := a) b1 b2 a1 a2).mp h9) p l e R s m args below meth c D q A Q C0 hR H locs ls hP hS hl) (fun h9 => kf (fun z => h9 ((iI_le (a := b) (b := a) b1 b2 a1 a2).mpr z)) p l e R s m args below meth c D q A Q C0 hR H locs ls hP hS hl)
theorem J_if_gt {off : Int} {tgt pc1 : Nat} {a : Int} (a1 : -2147483648 ≤ a) (a2 : a < 2147483648) (hd : decode cc pc = .ok (.ifCond .gt off, 3)) (ht : (pc : Int) + off = (tgt : Int)) (hp : pc + 3 = pc1) (kt : 0 < a → Jd y cc nL rt d tc ts K c0 s0 S tgt L st) (kf : ¬ 0 < a → Jd y cc nL rt d tc ts K c0 s0 S pc1 L st) : Jd y cc nL rt d tc ts K c0 s0 S pc L (.int (iI a) :: st) := by
  intro p l e R s m args below meth c D q A Q C hR H locs ls hP hS hl
  have C0 := C
  obtain ⟨hx, hb, hml, hown, hts, hrt, hlk, hini, hKK, hA, hdf, hdl, htc, hts2⟩ := C
  have hK := hKK.1
  subst hp
  exact lv_if_gt hx hb hd ht (fun h9 => kt ((iI_lt (a := 0) (b := a) (by omega) (by omega) a1 a2).mp h9) p l e R s m args below meth c D q A Q C0 hR H locs ls hP hS hl) (fun h9 => kf (fun z => h9 ((iI_lt (a := 0) (b := a) (by omega) (by omega) a1 a2).mpr z)) p l e R s m args below meth c D q A Q C0 hR H locs ls hP hS hl)
theorem J_icmp_gt {off : Int} {tgt pc1 : Nat} {a b : Int} (a1 : -2147483648 ≤ a) (a2 : a < 2147483648) (b1 : -2147483648 ≤ b) (b2 : b < 2147483648) (hd : decode cc pc = .ok (.if_icmp .gt off, 3)) (ht : (pc : Int) + off = (tgt : Int)) (hp : pc + 3 = pc1) (kt : b < a → Jd y cc nL rt d tc ts K c0 s0 S tgt L st) (kf : ¬ b < a → Jd y cc nL rt d tc ts K c0 s0 S pc1 L st) : Jd y cc nL rt d tc ts K c0 s0 S pc L (.int (iI b) :: .int (iI a) :: st) := by
  intro p l e R s m args below meth c D q A Q C hR H locs ls hP hS hl
  have C0 := C
  obtain ⟨hx, hb, hml, hown, hts, hrt, hlk, hini, hKK, hA, hdf, hdl, htc, hts2⟩ := C
  have hK := hKK.1
  subst hp
  exact lv_icmp_gt hx hb hd ht (fun h9 => kt ((iI_lt (a := b) (b := a) b1 b2 a1 a2).mp h9) p l e R s m args below meth c D q A Q C0 hR H locs ls hP hS hl) (fun h9 => kf (fun z => h9 ((iI_lt (a := b) (b := a) b1 b2 a1 a2).mpr z)) p l e R s m args below meth c D q A Q C0 hR H locs ls hP hS hl)
theorem J_if_le {off : Int} {tgt pc1 : Nat} {a : Int} (a1 : -2147483648 ≤ a) (a2 : a < 2147483648) (hd : decode cc pc = .ok (.ifCond .le off, 3)) (ht : (pc : Int) + off = (tgt : Int)) (hp : pc + 3 = pc1) (kt : a ≤ 0 → Jd y cc nL rt d tc ts K c0 s0 S tgt L st) (kf : ¬ a ≤ 0 → Jd y cc nL rt d tc ts K c0 s0 S pc1 L st) : Jd y cc nL rt d tc ts K c0 s0 S pc L (.int (iI a) :: st) := by
  intro p l e R s m args below meth c D q A Q C hR H locs ls hP hS hl
  have C0 := C
  obtain ⟨hx, hb, hml, hown, hts, hrt, hlk, hini, hKK, hA, hdf, hdl, htc, hts2⟩ := C
  have hK := hKK.1
  subst hp
  exact lv_if_le hx hb hd ht (fun h9 => kt ((iI_le (a := a) (b := 0) a1 a2 (by omega) (by omega)).mp h9) p l e R s m args below meth c D q A Q C0 hR H locs ls hP hS hl) (fun h9 => kf (fun z => h9 ((iI_le (a := a) (b := 0) a1 a2 (by omega) (by omega)).mpr z)) p l e R s m args below meth c D q A Q C0 hR H locs ls hP hS hl)
theorem J_icmp_le {off : Int} {tgt pc1 : Nat} {a b : Int} (a1 : -2147483648 ≤ a) (a2 : a < 2147483648) (b1 : -2147483648 ≤ b) (b2 : b < 2147483648) (hd : decode cc pc = .ok (.if_icmp .le off, 3)) (ht : (pc : Int) + off = (tgt : Int)) (hp : pc + 3 = pc1) (kt : a ≤ b → Jd y cc nL rt d tc ts K c0 s0 S tgt L st) (kf : ¬ a ≤ b → Jd y cc nL rt d tc ts K c0 s0 S pc1 L st) : Jd y cc nL rt d tc ts K c0 s0 S pc L (.int (iI b) :: .int (iI a) :: st) := by
  intro p l e R s m args below meth c D q A Q C hR H locs ls hP hS hl
  have C0 := C
  obtain ⟨hx, hb, hml, hown, hts, hrt, hlk, hini, hKK, hA, hdf, hdl, htc, hts2⟩ := C
  have hK := hKK.1
  subst hp
  exact lv_icmp_le hx hb hd ht (fun h9 => kt ((iI_le (a := a) (b := b) a1 a2 b1 b2).mp h9) p l e R s m args below meth c D q A Q C0 hR H locs ls hP hS hl) (fun h9 => kf (fun z => h9 ((iI_le (a := a) (b := b) a1 a2 b1 b2).mpr z)) p l e R s m args below meth c D q A Q C0 hR H locs ls hP hS hl)
theorem J_ifnull {off : Int} {pc1 x : Nat} (hd : decode cc pc = .ok (.ifnull off, 3)) (hp : pc + 3 = pc1) (k : Jd y cc nL rt d tc ts K c0 s0 S pc1 L st) : Jd y cc nL rt d tc ts K c0 s0 S pc L (.ref x :: st) := by
  intro p l e R s m args below meth c D q A Q C hR H locs ls hP hS hl
  have C0 := C
  obtain ⟨hx, hb, hml, hown, hts, hrt, hlk, hini, hKK, hA, hdf, hdl, htc, hts2⟩ := C
  have hK := hKK.1
  subst hp
  exact lv_ifnull hx hb hd (k p l e R s m args below meth c D q A Q C0 hR H locs ls hP hS hl)
theorem J_ifnullN {off : Int} {tgt : Nat} (hd : decode cc pc = .ok (.ifnull off, 3)) (ht : (pc : Int) + off = (tgt : Int)) (k : Jd y cc nL rt d tc ts K c0 s0 S tgt L st) : Jd y cc nL rt d tc ts K c0 s0 S pc L (.null :: st) := by
  intro p l e R s m args below meth c D q A Q C hR H locs ls hP hS hl
  have C0 := C
  obtain ⟨hx, hb, hml, hown, hts, hrt, hlk, hini, hKK, hA, hdf, hdl, htc, hts2⟩ := C
  have hK := hKK.1
  exact lv_ifnullN hx hb hd ht (k p l e R s m args below meth c D q A Q C0 hR H locs ls hP hS hl)
theorem J_ifnonnull {off : Int} {tgt x : Nat} (hd : decode cc pc = .ok (.ifnonnull off, 3)) (ht : (pc : Int) + off = (tgt : Int)) (k : Jd y cc nL rt d tc ts K c0 s0 S tgt L st) : Jd y cc nL rt d tc ts K c0 s0 S pc L (.ref x :: st) := by
  intro p l e R s m args below meth c D q A Q C hR H locs ls hP hS hl
  have C0 := C
  obtain ⟨hx, hb, hml, hown, hts, hrt, hlk, hini, hKK, hA, hdf, hdl, htc, hts2⟩ := C
  have hK := hKK.1
  exact lv_ifnonnull hx hb hd ht (k p l e R s m args below meth c D q A Q C0 hR H locs ls hP hS hl)
theorem J_ifnonnullN {off : Int} {pc1 : Nat} (hd : decode cc pc = .ok (.ifnonnull off, 3)) (hp : pc + 3 = pc1) (k : Jd y cc nL rt d tc ts K c0 s0 S pc1 L st) : Jd y cc nL rt d tc ts K c0 s0 S pc L (.null :: st) := by
  intro p l e R s m args below meth c D q A Q C hR H locs ls hP hS hl
  have C0 := C
  obtain ⟨hx, hb, hml, hown, hts, hrt, hlk, hini, hKK, hA, hdf, hdl, htc, hts2⟩ := C
  have hK := hKK.1
  subst hp
  exact lv_ifnonnullN hx hb hd (k p l e R s m args below meth c D q A Q C0 hR H locs ls hP hS hl)
theorem J_tableOut {dflt lo hi : Int} {offs : Array Int} {len tgt : Nat} {a : Int} (a1 : -2147483648 ≤ a) (a2 : a < 2147483648) (hd : decode cc pc = .ok (.tableswitch dflt lo hi offs, len)) (h : a < lo ∨ hi < a) (ht : (pc : Int) + dflt = (tgt : Int)) (k : Jd y cc nL rt d tc ts K c0 s0 S tgt L st) : Jd y cc nL rt d tc ts K c0 s0 S pc L (.int (iI a) :: st) := by
  intro p l e R s m args below meth c D q A Q C hR H locs ls hP hS hl
  have C0 := C
  obtain ⟨hx, hb, hml, hown, hts, hrt, hlk, hini, hKK, hA, hdf, hdl, htc, hts2⟩ := C
  have hK := hKK.1
  exact lv_tableOut hx hb hd (by rw [iI_to a1 a2]; exact h) ht (k p l e R s m args below meth c D q A Q C0 hR H locs ls hP hS hl)
theorem J_tableIn {dflt lo hi off : Int} {offs : Array Int} {len tgt : Nat} {a : Int} (a1 : -2147483648 ≤ a) (a2 : a < 2147483648) (hd : decode cc pc = .ok (.tableswitch dflt lo hi offs, len)) (h1 : ¬ a < lo) (h2 : ¬ hi < a) (ho : offs[(a - lo).toNat]? = some off) (ht : (pc : Int) + off = (tgt : Int)) (k : Jd y cc nL rt d tc ts K c0 s0 S tgt L st) : Jd y cc nL rt d tc ts K c0 s0 S pc L (.int (iI a) :: st) := by
  intro p l e R s m args below meth c D q A Q C hR H locs ls hP hS hl
  have C0 := C
  obtain ⟨hx, hb, hml, hown, hts, hrt, hlk, hini, hKK, hA, hdf, hdl, htc, hts2⟩ := C
  have hK := hKK.1
  exact lv_tableIn hx hb hd (by rw [iI_to a1 a2]; exact h1) (by rw [iI_to a1 a2]; exact h2) (by rw [iI_to a1 a2]; exact ho) ht (k p l e R s m args below meth c D q A Q C0 hR H locs ls hP hS hl)
theorem J_lookup {dflt off : Int} {ps : Array (Int × Int)} {len tgt : Nat} {a : Int} (a1 : -2147483648 ≤ a) (a2 : a < 2147483648) (hd : decode cc pc = .ok (.lookupswitch dflt ps, len)) (hq : (ps.toList.zip (ps.toList.drop 1)).all (fun (a, next) => a.1 < next.1) = true) (ho : Op.lookupswitch.offset ps.toList dflt a = off) (ht : (pc : Int) + off = (tgt : Int)) (k : Jd y cc nL rt d tc ts K c0 s0 S tgt L st) : Jd y cc nL rt d tc ts K c0 s0 S pc L (.int (iI a) :: st) := by
  intro p l e R s m args below meth c D q A Q C hR H locs ls hP hS hl
  have C0 := C
  obtain ⟨hx, hb, hml, hown, hts, hrt, hlk, hini, hKK, hA, hdf, hdl, htc, hts2⟩ := C
  have hK := hKK.1
  exact lv_lookup hx hb hd hq (by rw [iI_to a1 a2]; exact ho) ht (k p l e R s m args below meth c D q A Q C0 hR H locs ls hP hS hl)
theorem J_get {pc1 a ci ix N j : Nat} {C : String} {T : u_T} {fs : List Value} {v : Value} (hin : ∀ w ∈ u_ws C T N, w ∈ wsU) (hc : vwCl[ci]? = some (C, T, N)) (hj : j < N) (hw : Cond.fieldLink y.cls ix (T j).1 (T j).2.1 (T j).2.2.1 ∈ wsU) (hd : decode cc pc = .ok (.getfield ix, 3)) (hp : pc + 3 = pc1) (ha : S a = some (oO ci fs)) (hv : fs[j]? = some v) (k : Jd y cc nL rt d tc ts K c0 s0 S pc1 L (v :: st)) : Jd y cc nL rt d tc ts K c0 s0 S pc L (.ref a :: st) := by
  intro p l e R s m args below meth c D q A Q C hR H locs ls hP hS hl
  have C0 := C
  obtain ⟨hx, hb, hml, hown, hts, hrt, hlk, hini, hKK, hA, hdf, hdl, htc, hts2⟩ := C
  have hK := hKK.1
  subst hp
  obtain ⟨L1, f1, k1, g1, g2, g3, -⟩ := hP.at ha
  exact va_get hx hb hts hin hown hK g1 k1 g3 hc j hj (hts _ hw) (fun _ h => h) hv hd (k p l e R s m args below meth c D q A Q C0 hR H locs ls hP hS hl)
theorem J_put {pc1 a ci ix N j : Nat} {C : String} {T : u_T} {fs fs1 : List Value} {v : Value} {ty : FieldType} (hin : ∀ w ∈ u_ws C T N, w ∈ wsU) (hc : vwCl[ci]? = some (C, T, N)) (hj : j < N) (ty0 : Nat → FieldType) (hty : ∀ k, k < N → parseFieldDescriptor (T k).2.2.1 = some (ty0 k)) (hnm : ∀ a, a < N → ∀ b, b < N → a ≠ b → (T a).2.1 ≠ (T b).2.1) (hf : (T j).2.2.2 = false) (hpf : parseFieldDescriptor (T j).2.2.1 = some ty) (hw : Cond.fieldLink y.cls ix (T j).1 (T j).2.1 (T j).2.2.1 ∈ wsU) (hd : decode cc pc = .ok (.putfield ix, 3)) (hp : pc + 3 = pc1) (ha : S a = some (oO ci fs)) (hnv : narrow ty v = v) (hft : fits ty v = true) (hlen : j < fs.length) (hfs : fs.set j v = fs1) (k : Jd y cc nL rt d tc ts K c0 s0 (pu S a (oO ci fs1)) pc1 L st) : Jd y cc nL rt d tc ts K c0 s0 S pc L (v :: .ref a :: st) := by
  intro p l e R s m args below meth c D q A Q C hR H locs ls hP hS hl
  have C0 := C
  obtain ⟨hx, hb, hml, hown, hts, hrt, hlk, hini, hKK, hA, hdf, hdl, htc, hts2⟩ := C
  have hK := hKK.1
  subst hp
  subst hfs
  obtain ⟨L1, f1, k1, g1, g2, g3, g4, -⟩ := hP.at ha
  exact va_put hx hb hts hin ty0 hty hnm hown hK g1 g2 hS k1 g3 hc j hj (hts _ hw) (fun _ h => h) hf hpf hnv hft hlen hd (fun H1 locs1 p1 p2 p3 => k p l e R s m args below meth c D q A Q C0 hR H1 locs1 ls (g4 (oO ci (fs.set j v)) H1 p1 p2) p3 hl)
theorem J_putF {pc1 a ci ix N j : Nat} {C : String} {T : u_T} {fs fs1 : List Value} {v : Value} {ty : FieldType} (hin : ∀ w ∈ u_ws C T N, w ∈ wsU) (hc : vwCl[ci]? = some (C, T, N)) (hj : j < N) (ty0 : Nat → FieldType) (hty : ∀ k, k < N → parseFieldDescriptor (T k).2.2.1 = some (ty0 k)) (hnm : ∀ a, a < N → ∀ b, b < N → a ≠ b → (T a).2.1 ≠ (T b).2.1) (hf : (T j).2.2.2 = true) (hy1 : y.name = "<init>") (hy2 : (T j).1 = y.cls) (hpf : parseFieldDescriptor (T j).2.2.1 = some ty) (hw : Cond.fieldLink y.cls ix (T j).1 (T j).2.1 (T j).2.2.1 ∈ wsU) (hd : decode cc pc = .ok (.putfield ix, 3)) (hp : pc + 3 = pc1) (ha : S a = some (oO ci fs)) (hnv : narrow ty v = v) (hft : fits ty v = true) (hlen : j < fs.length) (hfs : fs.set j v = fs1) (k : Jd y cc nL rt d tc ts K c0 s0 (pu S a (oO ci fs1)) pc1 L st) : Jd y cc nL rt d tc ts K c0 s0 S pc L (v :: .ref a :: st) := by
  intro p l e R s m args below meth c D q A Q C hR H locs ls hP hS hl
  have C0 := C
  obtain ⟨hx, hb, hml, hown, hts, hrt, hlk, hini, hKK, hA, hdf, hdl, htc, hts2⟩ := C
  have hK := hKK.1
  subst hp
  subst hfs
  obtain ⟨L1, f1, k1, g1, g2, g3, g4, -⟩ := hP.at ha
  exact va_putF hx hb hts hin ty0 hty hnm hown hK g1 g2 hS k1 g3 hc j hj (hts _ hw) (fun _ h => h) hf (hini hy1) hy2 hpf hnv hft hlen hd (fun H1 locs1 p1 p2 p3 => k p l e R s m args below meth c D q A Q C0 hR H1 locs1 ls (g4 (oO ci (fs.set j v)) H1 p1 p2) p3 hl)
theorem J_iald {pc1 a n : Nat} {f : Int → Int} {z : Int} (hd : decode cc pc = .ok (.iaload, 1)) (hp : pc + 1 = pc1) (ha : S a = some (aI n f)) (h0 : 0 ≤ z) (h1 : z < n) (hn : n < 2147483648) (k : Jd y cc nL rt d tc ts K c0 s0 S pc1 L (.int (iI (f z)) :: st)) : Jd y cc nL rt d tc ts K c0 s0 S pc L (.int (iI z) :: .ref a :: st) := by
  intro p l e R s m args below meth c D q A Q C hR H locs ls hP hS hl
  have C0 := C
  obtain ⟨hx, hb, hml, hown, hts, hrt, hlk, hini, hKK, hA, hdf, hdl, htc, hts2⟩ := C
  have hK := hKK.1
  subst hp
  obtain ⟨L1, f1, k1, g1, g2, g3, -⟩ := hP.at ha
  refine va_iald hx hb hK g1 k1 0 g3 rfl (iI_in h0 h1 hn) hd ?_
  rw [iI_cl h0 (by omega)]
  dsimp only
  rw [Int.toNat_of_nonneg h0]
  exact k p l e R s m args below meth c D q A Q C0 hR H locs ls hP hS hl
theorem J_iast {pc1 a n : Nat} {f : Int → Int} {z v : Int} (hd : decode cc pc = .ok (.iastore, 1)) (hp : pc + 1 = pc1) (ha : S a = some (aI n f)) (h0 : 0 ≤ z) (h1 : z < n) (hn : n < 2147483648) (k : Jd y cc nL rt d tc ts K c0 s0 (pu S a (aI n (uZ f z v))) pc1 L st) : Jd y cc nL rt d tc ts K c0 s0 S pc L (.int (iI v) :: .int (iI z) :: .ref a :: st) := by
  intro p l e R s m args below meth c D q A Q C hR H locs ls hP hS hl
  have C0 := C
  obtain ⟨hx, hb, hml, hown, hts, hrt, hlk, hini, hKK, hA, hdf, hdl, htc, hts2⟩ := C
  have hK := hKK.1
  subst hp
  obtain ⟨L1, f1, k1, g1, g2, g3, g4, -⟩ := hP.at ha
  refine va_iast hx hb hK g1 g2 hS k1 0 g3 rfl (iI_in h0 h1 hn) hd (fun H1 locs1 p1 p2 p3 => ?_)
  rw [iI_cl h0 (by omega), aI_up f v h0] at p1 p2
  exact k p l e R s m args below meth c D q A Q C0 hR H1 locs1 ls (g4 (aI n (uZ f z v)) H1 p1 p2) p3 hl
theorem J_alenI {pc1 a n : Nat} {f : Nat → Int32} (hd : decode cc pc = .ok (.arraylength, 1)) (hp : pc + 1 = pc1) (ha : S a = some (oI n f)) (k : Jd y cc nL rt d tc ts K c0 s0 S pc1 L (.int (iI n) :: st)) : Jd y cc nL rt d tc ts K c0 s0 S pc L (.ref a :: st) := by
  intro p l e R s m args below meth c D q A Q C hR H locs ls hP hS hl
  have C0 := C
  obtain ⟨hx, hb, hml, hown, hts, hrt, hlk, hini, hKK, hA, hdf, hdl, htc, hts2⟩ := C
  have hK := hKK.1
  subst hp
  obtain ⟨L1, f1, k1, g1, g2, g3, -⟩ := hP.at ha
  exact va_alen hx hb hK g1 k1 0 g3 rfl rfl hd (k p l e R s m args below meth c D q A Q C0 hR H locs ls hP hS hl)
theorem J_alenG {pc1 a n : Nat} {f : Nat → Option Nat} (hd : decode cc pc = .ok (.arraylength, 1)) (hp : pc + 1 = pc1) (ha : S a = some (oQ 0 n f)) (k : Jd y cc nL rt d tc ts K c0 s0 S pc1 L (.int (iI n) :: st)) : Jd y cc nL rt d tc ts K c0 s0 S pc L (.ref a :: st) := by
  intro p l e R s m args below meth c D q A Q C hR H locs ls hP hS hl
  have C0 := C
  obtain ⟨hx, hb, hml, hown, hts, hrt, hlk, hini, hKK, hA, hdf, hdl, htc, hts2⟩ := C
  have hK := hKK.1
  subst hp
  obtain ⟨L1, f1, k1, g1, g2, g3, -⟩ := hP.at ha
  exact va_alen hx hb hK g1 k1 1 g3 rfl rfl hd (k p l e R s m args below meth c D q A Q C0 hR H locs ls hP hS hl)
theorem J_aaldG {pc1 a n : Nat} {f : Int → Option Nat} {z : Int} (hd : decode cc pc = .ok (.aaload, 1)) (hp : pc + 1 = pc1) (ha : S a = some (aQ 0 n f)) (h0 : 0 ≤ z) (h1 : z < n) (hn : n < 2147483648) (k : Jd y cc nL rt d tc ts K c0 s0 S pc1 L (va_rf (f z) :: st)) : Jd y cc nL rt d tc ts K c0 s0 S pc L (.int (iI z) :: .ref a :: st) := by
  intro p l e R s m args below meth c D q A Q C hR H locs ls hP hS hl
  have C0 := C
  obtain ⟨hx, hb, hml, hown, hts, hrt, hlk, hini, hKK, hA, hdf, hdl, htc, hts2⟩ := C
  have hK := hKK.1
  subst hp
  obtain ⟨L1, f1, k1, g1, g2, g3, -⟩ := hP.at ha
  refine va_aldq hx hb hK g1 k1 1 g3 rfl (iI_in h0 h1 hn) hd ?_
  rw [iI_cl h0 (by omega)]
  dsimp only
  rw [Int.toNat_of_nonneg h0]
  exact k p l e R s m args below meth c D q A Q C0 hR H locs ls hP hS hl
theorem J_aastG {pc1 a b n : Nat} {f : Int → Option Nat} {fs : List Value} {z : Int} (hd : decode cc pc = .ok (.aastore, 1)) (hp : pc + 1 = pc1) (ha : S a = some (aQ 0 n f)) (hb9 : S b = some (oO 2 fs)) (h0 : 0 ≤ z) (h1 : z < n) (hn : n < 2147483648) (k : Jd y cc nL rt d tc ts K c0 s0 (pu S a (aQ 0 n (uQ f z (some b)))) pc1 L st) : Jd y cc nL rt d tc ts K c0 s0 S pc L (.ref b :: .int (iI z) :: .ref a :: st) := by
  intro p l e R s m args below meth c D q A Q C hR H locs ls hP hS hl
  have C0 := C
  obtain ⟨hx, hb, hml, hown, hts, hrt, hlk, hini, hKK, hA, hdf, hdl, htc, hts2⟩ := C
  have hK := hKK.1
  subst hp
  obtain ⟨L1, f1, k1, g1, g2, g3, g4, g5⟩ := hP.at ha
  obtain ⟨k2, hk2⟩ := g5 b _ hb9
  refine va_astq hx hb hK g1 g2 hS k1 1 k2 2 g3 rfl hk2 rfl (iI_in h0 h1 hn) hd (fun H1 locs1 p1 p2 p3 => ?_)
  rw [iI_cl h0 (by omega), aQ_up f (some b) h0] at p1 p2
  exact k p l e R s m args below meth c D q A Q C0 hR H1 locs1 ls (g4 (aQ 0 n (uQ f z (some b))) H1 p1 p2) p3 hl
theorem J_alenT {pc1 a n : Nat} {f : Nat → Option Nat} (hd : decode cc pc = .ok (.arraylength, 1)) (hp : pc + 1 = pc1) (ha : S a = some (oQ 1 n f)) (k : Jd y cc nL rt d tc ts K c0 s0 S pc1 L (.int (iI n) :: st)) : Jd y cc nL rt d tc ts K c0 s0 S pc L (.ref a :: st) := by
  intro p l e R s m args below meth c D q A Q C hR H locs ls hP hS hl
  have C0 := C
  obtain ⟨hx, hb, hml, hown, hts, hrt, hlk, hini, hKK, hA, hdf, hdl, htc, hts2⟩ := C
  have hK := hKK.1
  subst hp
  obtain ⟨L1, f1, k1, g1, g2, g3, -⟩ := hP.at ha
  exact va_alen hx hb hK g1 k1 2 g3 rfl rfl hd (k p l e R s m args below meth c D q A Q C0 hR H locs ls hP hS hl)
theorem J_aaldT {pc1 a n : Nat} {f : Int → Option Nat} {z : Int} (hd : decode cc pc = .ok (.aaload, 1)) (hp : pc + 1 = pc1) (ha : S a = some (aQ 1 n f)) (h0 : 0 ≤ z) (h1 : z < n) (hn : n < 2147483648) (k : Jd y cc nL rt d tc ts K c0 s0 S pc1 L (va_rf (f z) :: st)) : Jd y cc nL rt d tc ts K c0 s0 S pc L (.int (iI z) :: .ref a :: st) := by
  intro p l e R s m args below meth c D q A Q C hR H locs ls hP hS hl
  have C0 := C
  obtain ⟨hx, hb, hml, hown, hts, hrt, hlk, hini, hKK, hA, hdf, hdl, htc, hts2⟩ := C
  have hK := hKK.1
  subst hp
  obtain ⟨L1, f1, k1, g1, g2, g3, -⟩ := hP.at ha
  refine va_aldq hx hb hK g1 k1 2 g3 rfl (iI_in h0 h1 hn) hd ?_
  rw [iI_cl h0 (by omega)]
  dsimp only
  rw [Int.toNat_of_nonneg h0]
  exact k p l e R s m args below meth c D q A Q C0 hR H locs ls hP hS hl
theorem J_aastT {pc1 a b n : Nat} {f : Int → Option Nat} {fs : List Value} {z : Int} (hd : decode cc pc = .ok (.aastore, 1)) (hp : pc + 1 = pc1) (ha : S a = some (aQ 1 n f)) (hb9 : S b = some (oO 8 fs)) (h0 : 0 ≤ z) (h1 : z < n) (hn : n < 2147483648) (k : Jd y cc nL rt d tc ts K c0 s0 (pu S a (aQ 1 n (uQ f z (some b)))) pc1 L st) : Jd y cc nL rt d tc ts K c0 s0 S pc L (.ref b :: .int (iI z) :: .ref a :: st) := by
  intro p l e R s m args below meth c D q A Q C hR H locs ls hP hS hl
  have C0 := C
  obtain ⟨hx, hb, hml, hown, hts, hrt, hlk, hini, hKK, hA, hdf, hdl, htc, hts2⟩ := C
  have hK := hKK.1
  subst hp
  obtain ⟨L1, f1, k1, g1, g2, g3, g4, g5⟩ := hP.at ha
  obtain ⟨k2, hk2⟩ := g5 b _ hb9
  refine va_astq hx hb hK g1 g2 hS k1 2 k2 8 g3 rfl hk2 rfl (iI_in h0 h1 hn) hd (fun H1 locs1 p1 p2 p3 => ?_)
  rw [iI_cl h0 (by omega), aQ_up f (some b) h0] at p1 p2
  exact k p l e R s m args below meth c D q A Q C0 hR H1 locs1 ls (g4 (aQ 1 n (uQ f z (some b))) H1 p1 p2) p3 hl
theorem J_new {pc1 ci ix N : Nat} {C : String} {T : u_T} {fs : List Value} (hin : ∀ w ∈ u_ws C T N, w ∈ wsU) (hc : vwCl[ci]? = some (C, T, N)) (ty0 : Nat → FieldType) (hty : ∀ k, k < N → parseFieldDescriptor (T k).2.2.1 = some (ty0 k)) (hw : Cond.classLink y.cls ix C ∈ wsU) (hw2 : Cond.instantiable C N ∈ wsU) (hw3 : Cond.initialized C ∈ wsU) (hfs : ∀ j, j < N → defaultValue (ty0 j) = vp_V fs j) (hd : decode cc pc = .ok (.new ix, 3)) (hp : pc + 3 = pc1) (hc1 : c0 + 1 ≤ tc) (hs1 : s0 + N ≤ ts) (k : ∀ a : Nat, S a = none → Jd y cc nL rt d tc ts K (c0 + 1) (s0 + N) (pu S a (oO ci fs)) pc1 L (.ref a :: st)) : Jd y cc nL rt d tc ts K c0 s0 S pc L st := by
  intro p l e R s m args below meth c D q A Q C hR H locs ls hP hS hl
  have C0 := C
  obtain ⟨hx, hb, hml, hown, hts, hrt, hlk, hini, hKK, hA, hdf, hdl, htc, hts2⟩ := C
  have hK := hKK.1
  subst hp
  obtain ⟨L1, f1, h1, h2, g1, g2⟩ := hP
  refine va_new hx hb hts hin ty0 hty hown (hts _ hw) (hts _ hw2) (hts _ hw3) hK g1 g2 hS hA hc hfs (Nat.le_trans hc1 htc) (Nat.le_trans hs1 hts2) hd (fun a H1 p1 p2 p3 => ?_)
  obtain ⟨n1, n2⟩ := pH.new (e := oO ci fs) h1 h2 p1 p2
  exact k a n1 p l e R s m args below meth c D q A Q C0 hR H1 locs ls n2 p3 hl
theorem J_newI {pc1 n : Nat} {z : Int} (hw : Cond.arrayClass .int ∈ wsU) (hd : decode cc pc = .ok (.newarray .int, 2)) (hp : pc + 2 = pc1) (hz : z = n) (hn : n < 100000000) (hc1 : c0 + 1 ≤ tc) (hs1 : s0 + n ≤ ts) (k : ∀ a : Nat, S a = none → Jd y cc nL rt d tc ts K (c0 + 1) (s0 + n) (pu S a (aI n (fun _ => 0))) pc1 L (.ref a :: st)) : Jd y cc nL rt d tc ts K c0 s0 S pc L (.int (iI z) :: st) := by
  intro p l e R s m args below meth c D q A Q C hR H locs ls hP hS hl
  have C0 := C
  obtain ⟨hx, hb, hml, hown, hts, hrt, hlk, hini, hKK, hA, hdf, hdl, htc, hts2⟩ := C
  have hK := hKK.1
  subst hp
  subst hz
  obtain ⟨L1, f1, h1, h2, g1, g2⟩ := hP
  refine va_newa (atype := .int) (ty := .int) (a0 := (n, .inl (fun _ => 0))) hx hb (hts _ hw) rfl hK g1 g2 hS hA (N' := n) (fun cA => rfl) (by intro h9; have := (iI_lt (a := (n : Int)) (b := 0) (by omega) (by omega) (by omega) (by omega)).mp h9; omega) (by rw [iI_cl (by omega) (by omega)]; omega) (by show n * 4 ≤ 536870912; omega) (Nat.le_trans hc1 htc) (Nat.le_trans hs1 hts2) hd (fun a cA H1 kk p1 p2 p3 => ?_)
  have hcA : cA = q.1 := by
    have e1 := (kk.2 3 (cA, .int) rfl).2
    have e2 := (hK.2 0 (q.1, .int) rfl).2
    exact Option.some.inj (e1.symm.trans e2)
  subst hcA
  obtain ⟨n1, n2⟩ := pH.new (e := aI n (fun _ => 0)) h1 h2 p1 p2
  exact k a n1 p l e R s m args below meth c D q A Q C0 hR H1 locs ls n2 p3 hl
theorem J_newG {pc1 n ix : Nat} {z : Int} (hw : Cond.classLink y.cls ix "BorrowedHours$Game" ∈ wsU) (hd : decode cc pc = .ok (.anewarray ix, 3)) (hp : pc + 3 = pc1) (hz : z = n) (hn : n < 100000000) (hc1 : c0 + 1 ≤ tc) (hs1 : s0 + n ≤ ts) (k : ∀ a : Nat, S a = none → Jd y cc nL rt d tc ts K (c0 + 1) (s0 + n) (pu S a (aQ 0 n (fun _ => none))) pc1 L (.ref a :: st)) : Jd y cc nL rt d tc ts K c0 s0 S pc L (.int (iI z) :: st) := by
  intro p l e R s m args below meth c D q A Q C hR H locs ls hP hS hl
  have C0 := C
  obtain ⟨hx, hb, hml, hown, hts, hrt, hlk, hini, hKK, hA, hdf, hdl, htc, hts2⟩ := C
  have hK := hKK.1
  subst hp
  subst hz
  obtain ⟨L1, f1, h1, h2, g1, g2⟩ := hP
  refine va_newq hx hb hown (hts _ hw) hKK.2.1 hK g1 g2 hS hA (N' := n) (by intro h9; have := (iI_lt (a := (n : Int)) (b := 0) (by omega) (by omega) (by omega) (by omega)).mp h9; omega) (by rw [iI_cl (by omega) (by omega)]; omega) (by omega) (Nat.le_trans hc1 htc) (Nat.le_trans hs1 hts2) hd (fun a cA H1 kk p1 p2 p3 => ?_)
  have hcA : cA = q.2.1 := by
    obtain ⟨-, -, -, -, -, e1⟩ := (kk.2 3 (cA, .object "BorrowedHours$Game") rfl).2
    obtain ⟨-, -, -, -, -, e2⟩ := (hK.2 1 (q.2.1, .object "BorrowedHours$Game") rfl).2
    exact Option.some.inj (e1.symm.trans e2)
  subst hcA
  obtain ⟨n1, n2⟩ := pH.new (e := aQ 0 n (fun _ => none)) h1 h2 p1 p2
  exact k a n1 p l e R s m args below meth c D q A Q C0 hR H1 locs ls n2 p3 hl
theorem J_newT {pc1 n ix : Nat} {z : Int} (hw : Cond.classLink y.cls ix "BorrowedHours$Times" ∈ wsU) (hd : decode cc pc = .ok (.anewarray ix, 3)) (hp : pc + 3 = pc1) (hz : z = n) (hn : n < 100000000) (hc1 : c0 + 1 ≤ tc) (hs1 : s0 + n ≤ ts) (k : ∀ a : Nat, S a = none → Jd y cc nL rt d tc ts K (c0 + 1) (s0 + n) (pu S a (aQ 1 n (fun _ => none))) pc1 L (.ref a :: st)) : Jd y cc nL rt d tc ts K c0 s0 S pc L (.int (iI z) :: st) := by
  intro p l e R s m args below meth c D q A Q C hR H locs ls hP hS hl
  have C0 := C
  obtain ⟨hx, hb, hml, hown, hts, hrt, hlk, hini, hKK, hA, hdf, hdl, htc, hts2⟩ := C
  have hK := hKK.1
  subst hp
  subst hz
  obtain ⟨L1, f1, h1, h2, g1, g2⟩ := hP
  refine va_newq hx hb hown (hts _ hw) hKK.2.2.1 hK g1 g2 hS hA (N' := n) (by intro h9; have := (iI_lt (a := (n : Int)) (b := 0) (by omega) (by omega) (by omega) (by omega)).mp h9; omega) (by rw [iI_cl (by omega) (by omega)]; omega) (by omega) (Nat.le_trans hc1 htc) (Nat.le_trans hs1 hts2) hd (fun a cA H1 kk p1 p2 p3 => ?_)
  have hcA : cA = q.2.2 := by
    obtain ⟨-, -, -, -, -, e1⟩ := (kk.2 3 (cA, .object "BorrowedHours$Times") rfl).2
    obtain ⟨-, -, -, -, -, e2⟩ := (hK.2 2 (q.2.2, .object "BorrowedHours$Times") rfl).2
    exact Option.some.inj (e1.symm.trans e2)
  subst hcA
  obtain ⟨n1, n2⟩ := pH.new (e := aQ 1 n (fun _ => none)) h1 h2 p1 p2
  exact k a n1 p l e R s m args below meth c D q A Q C0 hR H1 locs ls n2 p3 hl
theorem J_objInit {pc1 ix a : Nat} (hw : Cond.methodLink y.cls ix objectInit ∈ wsU) (hw2 : Cond.instanceMethod objectInit ∈ wsU) (hw3 : Cond.code objectInit ⟨#[0xb1]⟩ 1 none ∈ wsU) (hd : decode cc pc = .ok (.invokespecial ix, 3)) (hp : pc + 3 = pc1) (hdd : 1 ≤ d) (hrm : (st.map fun v => v.category).sum ≤ 8) (k : Jd y cc nL rt d tc ts K c0 s0 S pc1 L st) : Jd y cc nL rt d tc ts K c0 s0 S pc L (.ref a :: st) := by
  intro p l e R s m args below meth c D q A Q C hR H locs ls hP hS hl
  have C0 := C
  obtain ⟨hx, hb, hml, hown, hts, hrt, hlk, hini, hKK, hA, hdf, hdl, htc, hts2⟩ := C
  have hK := hKK.1
  subst hp
  exact W.objInit hx hb hown (hts _ hw) (hts _ hw2) (hts _ hw3) rfl (by rw [hml]; exact hl.1) rfl hd (Nat.le_trans hdd hdf) (by show 2 * 0 + _ + 12 ≤ _; omega) (k p l e R s m args below meth c D q A Q C0 hR H locs ls hP hS hl)
theorem J_callV {y1 : MethodName} {cc1 : ByteArray} {nL1 : Nat} {rt1 : Option FieldType} {d1 mc ms n : Nat} {As : List Value} {K1 : Option Value → pS → Prop} {pc1 ix b ci N : Nat} {C : String} {T9 : u_T} {fs : List Value} {stk : List Value} (hG : GoodIn wsU (wsV y.cls ix C y1 (.code y1 cc1 nL1 rt1 :: wsU))) (hy : y1.cls = C ∧ y1.cls ≠ "java/lang/invoke/MethodHandle" ∧ y1.cls ≠ "java/lang/invoke/VarHandle" ∧ (parseMethodDescriptor y1.desc).map (fun d => d.parameters.length) = some n) (hc : vwCl[ci]? = some (C, T9, N)) (hM : Ct y1 cc1 nL1 rt1 d1 mc ms (.ref b :: As) S K1) (hd : decode cc pc = .ok (.invokevirtual ix, 3)) (hp : pc + 3 = pc1) (ha : S b = some (oO ci fs)) (hst : stk = As.reverse ++ .ref b :: st) (hn : As.length = n) (hdd : d1 + 1 ≤ d) (hnl : nL1 ≤ 21) (hcc : c0 + mc ≤ tc) (hss : s0 + ms ≤ ts) (hrm : (st.map fun v => v.category).sum ≤ 8) (k : ∀ (r : Option Value) (S1 : pS), K1 r S1 → Jd y cc nL rt d tc ts K (c0 + mc) (s0 + ms) S1 pc1 L (r.toList ++ st)) : Jd y cc nL rt d tc ts K c0 s0 S pc L stk := by
  intro p l e R s m args below meth c D q A Q C hR H locs ls hP hS hl
  have C0 := C
  obtain ⟨hx, hb, hml, hown, hts, hrt, hlk, hini, hKK, hA, hdf, hdl, htc, hts2⟩ := C
  have hK := hKK.1
  obtain ⟨L1, f9, k1, g1, g2, g3, -⟩ := hP.at ha
  subst hp
  subst hst
  have hrun := va_runV (H := H) (locs := locs) (cells := c0) (slots := s0) (e := e) (meth := meth) (below := below) (g := F0 m pc ls (As.reverse ++ .ref b :: st)) (rest := st) (As := As) (b := b) ⟨hx, hb, hml, hown, hts⟩ (hM d1 (Nat.le_refl _) l D q H.size) (cwV (R := R) n hts hG rfl rfl rfl hy ⟨by show d1 + 1 ≤ _; omega, by show 8 + (nL1 + 11) + 40 * d1 ≤ _; omega⟩) ⟨fun a U g mk z => by obtain ⟨q0, q1, q2, q3⟩ := z; exact ⟨q0, q1, q2, KK.same (u := U) (U := U.calling g mk a) rfl q3⟩, va_recv hK g1 hc g3, fun U hU hW => ⟨rfl, by rw [hU], by rw [hU]; exact hP.weaken (fun _ _ _ _ => trivial), KK.warm hW hKK⟩⟩ rfl hn (hl.1) rfl (lv_room hrm) hd ⟨Nat.le_trans hcc htc, Nat.le_trans hss hts2⟩
  intro T hT X
  obtain ⟨v, st₀, t, T1, L9, e0, X1, hL9, e1, e2, ⟨⟨r, S1, hoc, hKr, hP1⟩, hF⟩, hgo⟩ := hrun T hT X
  cases hoc
  have hA1 : ∀ x : Nat, aS S H.size x → A x := fun x hx9 => hx9.elim (fun ⟨e9, he9⟩ => hP.inA he9) (fun h9 => hA x (Nat.le_trans hS.1 h9))
  rw [← e1] at hP1
  obtain ⟨f1, f2⟩ := hF
  rw [e0, ← e1] at f1 f2
  have hS1 : va_S A s.heap T1.heap (locs ++ L9) := ⟨Nat.le_trans hS.1 f1, fun x h1 h2 => (f2 x (Nat.lt_of_lt_of_le h1 hS.1) (fun z => h2 (hA1 x z))).trans (hS.2.1 x h1 h2), fun x hx9 => (List.mem_append.mp hx9).elim (hS.2.2 x) (fun z => hA1 _ (hL9 x z))⟩
  obtain ⟨t2, a1, b1⟩ := k v S1 hKr p l e R s m args below meth c D q A Q C0 hR T1.heap (locs ++ L9) ls (hP1.weaken (fun x e9 _ z => hA1 x z)) hS1 hl T1 rfl X1
  exact ⟨t2, hgo t2 a1, b1⟩
theorem J_callS {y1 : MethodName} {cc1 : ByteArray} {nL1 : Nat} {rt1 : Option FieldType} {d1 mc ms n : Nat} {As : List Value} {K1 : Option Value → pS → Prop} {pc1 ix : Nat} {stk : List Value} (hG : GoodIn wsU (wsS y.cls ix y1 (.code y1 cc1 nL1 rt1 :: wsU))) (hy : y1.cls = y.cls ∧ y1.cls ≠ "java/lang/invoke/MethodHandle" ∧ y1.cls ≠ "java/lang/invoke/VarHandle" ∧ (parseMethodDescriptor y1.desc).map (fun d => d.parameters.length) = some n) (hM : Ct y1 cc1 nL1 rt1 d1 mc ms As S K1) (hd : decode cc pc = .ok (.invokestatic ix, 3)) (hp : pc + 3 = pc1) (hst : stk = As.reverse ++ st) (hn : As.length = n) (hdd : d1 + 1 ≤ d) (hnl : nL1 ≤ 21) (hcc : c0 + mc ≤ tc) (hss : s0 + ms ≤ ts) (hrm : (st.map fun v => v.category).sum ≤ 8) (k : ∀ (r : Option Value) (S1 : pS), K1 r S1 → Jd y cc nL rt d tc ts K (c0 + mc) (s0 + ms) S1 pc1 L (r.toList ++ st)) : Jd y cc nL rt d tc ts K c0 s0 S pc L stk := by
  intro p l e R s m args below meth c D q A Q C hR H locs ls hP hS hl
  have C0 := C
  obtain ⟨hx, hb, hml, hown, hts, hrt, hlk, hini, hKK, hA, hdf, hdl, htc, hts2⟩ := C
  have hK := hKK.1
  subst hp
  subst hst
  have hrun := va_runS (H := H) (locs := locs) (cells := c0) (slots := s0) (e := e) (meth := meth) (below := below) (g := F0 m pc ls (As.reverse ++ st)) (rest := st) (As := As) ⟨hx, hb, hml, hown, hts⟩ (hM d1 (Nat.le_refl _) l D q H.size) (cwS (R := R) n hts hG rfl rfl rfl hy ⟨by show d1 + 1 ≤ _; omega, by show 8 + (nL1 + 11) + 40 * d1 ≤ _; omega⟩) ⟨fun a U g mk z => by obtain ⟨q0, q1, q2, q3⟩ := z; exact ⟨q0, q1, q2, KK.same (u := U) (U := U.calling g mk a) rfl q3⟩, fun U hU hW => ⟨rfl, by rw [hU], by rw [hU]; exact hP.weaken (fun _ _ _ _ => trivial), KK.warm hW hKK⟩⟩ rfl hn (hl.1) rfl (lv_room hrm) hd ⟨Nat.le_trans hcc htc, Nat.le_trans hss hts2⟩
  intro T hT X
  obtain ⟨v, st₀, t, T1, L9, e0, X1, hL9, e1, e2, ⟨⟨r, S1, hoc, hKr, hP1⟩, hF⟩, hgo⟩ := hrun T hT X
  cases hoc
  have hA1 : ∀ x : Nat, aS S H.size x → A x := fun x hx9 => hx9.elim (fun ⟨e9, he9⟩ => hP.inA he9) (fun h9 => hA x (Nat.le_trans hS.1 h9))
  rw [← e1] at hP1
  obtain ⟨f1, f2⟩ := hF
  rw [e0, ← e1] at f1 f2
  have hS1 : va_S A s.heap T1.heap (locs ++ L9) := ⟨Nat.le_trans hS.1 f1, fun x h1 h2 => (f2 x (Nat.lt_of_lt_of_le h1 hS.1) (fun z => h2 (hA1 x z))).trans (hS.2.1 x h1 h2), fun x hx9 => (List.mem_append.mp hx9).elim (hS.2.2 x) (fun z => hA1 _ (hL9 x z))⟩
  obtain ⟨t2, a1, b1⟩ := k v S1 hKr p l e R s m args below meth c D q A Q C0 hR T1.heap (locs ++ L9) ls (hP1.weaken (fun x e9 _ z => hA1 x z)) hS1 hl T1 rfl X1
  exact ⟨t2, hgo t2 a1, b1⟩
theorem J_callI {y1 : MethodName} {cc1 : ByteArray} {nL1 : Nat} {d1 mc ms n : Nat} {As : List Value} {K1 : Option Value → pS → Prop} {pc1 ix b : Nat} {stk : List Value} (hG : GoodIn wsU (.code y1 cc1 nL1 none :: wsU)) (hy : y1.name = "<init>" ∧ y1.cls ≠ "java/lang/invoke/MethodHandle" ∧ y1.cls ≠ "java/lang/invoke/VarHandle" ∧ (parseMethodDescriptor y1.desc).map (fun d => d.parameters.length) = some n) (hw1 : Cond.initialized y1.cls ∈ wsU) (hw2 : Cond.methodLink y.cls ix y1 ∈ wsU) (hw3 : Cond.instanceMethod y1 ∈ wsU) (hM : Ct y1 cc1 nL1 none d1 mc ms (.ref b :: As) S K1) (hd : decode cc pc = .ok (.invokespecial ix, 3)) (hp : pc + 3 = pc1) (hst : stk = As.reverse ++ .ref b :: st) (hn : As.length = n) (hdd : d1 + 1 ≤ d) (hnl : nL1 ≤ 21) (hcc : c0 + mc ≤ tc) (hss : s0 + ms ≤ ts) (hrm : (st.map fun v => v.category).sum ≤ 8) (k : ∀ (r : Option Value) (S1 : pS), K1 r S1 → Jd y cc nL rt d tc ts K (c0 + mc) (s0 + ms) S1 pc1 L (r.toList ++ st)) : Jd y cc nL rt d tc ts K c0 s0 S pc L stk := by
  intro p l e R s m args below meth c D q A Q C hR H locs ls hP hS hl
  have C0 := C
  obtain ⟨hx, hb, hml, hown, hts, hrt, hlk, hini, hKK, hA, hdf, hdl, htc, hts2⟩ := C
  have hK := hKK.1
  subst hp
  subst hst
  have hrun := va_runI (H := H) (locs := locs) (cells := c0) (slots := s0) (e := e) (meth := meth) (below := below) (g := F0 m pc ls (As.reverse ++ .ref b :: st)) (rest := st) (As := As) (b := b) ⟨hx, hb, hml, hown, hts⟩ (hM d1 (Nat.le_refl _) l D q H.size) (cwI (R := R) n hts hG rfl rfl rfl (hts _ hw1) (hts _ hw2) (hts _ hw3) hy.1 hy.2 ⟨by show d1 + 1 ≤ _; omega, by show 8 + (nL1 + 11) + 40 * d1 ≤ _; omega⟩) ⟨fun a U g mk z => by obtain ⟨q0, q1, q2, q3⟩ := z; exact ⟨q0, q1, q2, KK.same (u := U) (U := U.calling g mk a) rfl q3⟩, fun U hU hW => ⟨rfl, by rw [hU], by rw [hU]; exact hP.weaken (fun _ _ _ _ => trivial), KK.warm hW hKK⟩⟩ rfl hn (hl.1) rfl (lv_room hrm) hd ⟨Nat.le_trans hcc htc, Nat.le_trans hss hts2⟩
  intro T hT X
  obtain ⟨v, st₀, t, T1, L9, e0, X1, hL9, e1, e2, ⟨⟨r, S1, hoc, hKr, hP1⟩, hF⟩, hgo⟩ := hrun T hT X
  cases hoc
  have hA1 : ∀ x : Nat, aS S H.size x → A x := fun x hx9 => hx9.elim (fun ⟨e9, he9⟩ => hP.inA he9) (fun h9 => hA x (Nat.le_trans hS.1 h9))
  rw [← e1] at hP1
  obtain ⟨f1, f2⟩ := hF
  rw [e0, ← e1] at f1 f2
  have hS1 : va_S A s.heap T1.heap (locs ++ L9) := ⟨Nat.le_trans hS.1 f1, fun x h1 h2 => (f2 x (Nat.lt_of_lt_of_le h1 hS.1) (fun z => h2 (hA1 x z))).trans (hS.2.1 x h1 h2), fun x hx9 => (List.mem_append.mp hx9).elim (hS.2.2 x) (fun z => hA1 _ (hL9 x z))⟩
  obtain ⟨t2, a1, b1⟩ := k v S1 hKr p l e R s m args below meth c D q A Q C0 hR T1.heap (locs ++ L9) ls (hP1.weaken (fun x e9 _ z => hA1 x z)) hS1 hl T1 rfl X1
  exact ⟨t2, hgo t2 a1, b1⟩
theorem J_callIN {y1 : MethodName} {cc1 : ByteArray} {nL1 : Nat} {d1 mc ms n : Nat} {As : List Value} {K1 : Option Value → pS → Prop} {pc1 ix b : Nat} {stk : List Value} (hG : GoodIn wsU (.code y1 cc1 nL1 none :: wsU)) (hy : y1.name = "<init>" ∧ y1.cls ≠ "java/lang/invoke/MethodHandle" ∧ y1.cls ≠ "java/lang/invoke/VarHandle" ∧ (parseMethodDescriptor y1.desc).map (fun d => d.parameters.length) = some n) (hw1 : Cond.initialized y1.cls ∈ wsU) {host : String} (hw2 : (y.cls, ix, y1, host) ∈ nestL) (hw3 : Cond.instanceMethod y1 ∈ wsU) (hM : Ct y1 cc1 nL1 none d1 mc ms (.ref b :: As) S K1) (hd : decode cc pc = .ok (.invokespecial ix, 3)) (hp : pc + 3 = pc1) (hst : stk = As.reverse ++ .ref b :: st) (hn : As.length = n) (hdd : d1 + 1 ≤ d) (hnl : nL1 ≤ 21) (hcc : c0 + mc ≤ tc) (hss : s0 + ms ≤ ts) (hrm : (st.map fun v => v.category).sum ≤ 8) (k : ∀ (r : Option Value) (S1 : pS), K1 r S1 → Jd y cc nL rt d tc ts K (c0 + mc) (s0 + ms) S1 pc1 L (r.toList ++ st)) : Jd y cc nL rt d tc ts K c0 s0 S pc L stk := by
  intro p l e R s m args below meth c D q A Q C hR H locs ls hP hS hl
  have C0 := C
  obtain ⟨hx, hb, hml, hown, hts, hrt, hlk, hini, hKK, hA, hdf, hdl, htc, hts2⟩ := C
  have hK := hKK.1
  subst hp
  subst hst
  have hrun := va_runIN (H := H) (locs := locs) (cells := c0) (slots := s0) (e := e) (meth := meth) (below := below) (g := F0 m pc ls (As.reverse ++ .ref b :: st)) (rest := st) (As := As) (b := b) ⟨hx, hb, hml, hown, hts⟩ (hM d1 (Nat.le_refl _) l D q H.size) ⟨va_cnB (R := R) n hts hG rfl rfl rfl (hKK.2.2.2 _ hw2) (hts _ hw1) hy.2 ⟨by show d1 + 1 ≤ _; omega, by show 8 + (nL1 + 11) + 40 * d1 ≤ _; omega⟩, hy.1, hts _ hw3⟩ ⟨fun a U g mk z => by obtain ⟨q0, q1, q2, q3⟩ := z; exact ⟨q0, q1, q2, KK.same (u := U) (U := U.calling g mk a) rfl q3⟩, fun U hU hW => ⟨rfl, by rw [hU], by rw [hU]; exact hP.weaken (fun _ _ _ _ => trivial), KK.warm hW hKK⟩⟩ rfl hn (hl.1) rfl (lv_room hrm) hd ⟨Nat.le_trans hcc htc, Nat.le_trans hss hts2⟩
  intro T hT X
  obtain ⟨v, st₀, t, T1, L9, e0, X1, hL9, e1, e2, ⟨⟨r, S1, hoc, hKr, hP1⟩, hF⟩, hgo⟩ := hrun T hT X
  cases hoc
  have hA1 : ∀ x : Nat, aS S H.size x → A x := fun x hx9 => hx9.elim (fun ⟨e9, he9⟩ => hP.inA he9) (fun h9 => hA x (Nat.le_trans hS.1 h9))
  rw [← e1] at hP1
  obtain ⟨f1, f2⟩ := hF
  rw [e0, ← e1] at f1 f2
  have hS1 : va_S A s.heap T1.heap (locs ++ L9) := ⟨Nat.le_trans hS.1 f1, fun x h1 h2 => (f2 x (Nat.lt_of_lt_of_le h1 hS.1) (fun z => h2 (hA1 x z))).trans (hS.2.1 x h1 h2), fun x hx9 => (List.mem_append.mp hx9).elim (hS.2.2 x) (fun z => hA1 _ (hL9 x z))⟩
  obtain ⟨t2, a1, b1⟩ := k v S1 hKr p l e R s m args below meth c D q A Q C0 hR T1.heap (locs ++ L9) ls (hP1.weaken (fun x e9 _ z => hA1 x z)) hS1 hl T1 rfl X1
  exact ⟨t2, hgo t2 a1, b1⟩
theorem J_widen {c1 s1 : Nat} (hc1 : c0 ≤ c1) (hs1 : s0 ≤ s1) (k : Jd y cc nL rt d tc ts K c1 s1 S pc L st) : Jd y cc nL rt d tc ts K c0 s0 S pc L st := by
  intro p l e R s m args below meth c D q A Q C hR H locs ls hP hS hl
  have C0 := C
  obtain ⟨hx, hb, hml, hown, hts, hrt, hlk, hini, hKK, hA, hdf, hdl, htc, hts2⟩ := C
  have hK := hKK.1
  exact W.widen hc1 hs1 (k p l e R s m args below meth c D q A Q C0 hR H locs ls hP hS hl)
theorem J_vret (hrr : rt = none) (hd : decode cc pc = .ok (.return_, 1)) (hc1 : c0 ≤ tc) (hs1 : s0 ≤ ts) (hk : K none S)  : Jd y cc nL rt d tc ts K c0 s0 S pc L [] := by
  intro p l e R s m args below meth c D q A Q C hR H locs ls hP hS hl
  have C0 := C
  obtain ⟨hx, hb, hml, hown, hts, hrt, hlk, hini, hKK, hA, hdf, hdl, htc, hts2⟩ := C
  have hK := hKK.1
  exact W.widen hc1 hs1 (hR none S hk H locs ls pc _ (Or.inl ⟨rfl, hrr, rfl⟩) hd hP hS)
theorem J_iret {v : Int32} {ty : FieldType} (hrr : rt = some ty) (hnv : narrow ty (.int v) = .int v) (hd : decode cc pc = .ok (.ireturn, 1)) (hc1 : c0 ≤ tc) (hs1 : s0 ≤ ts) (hk : K (some (.int v)) S)  : Jd y cc nL rt d tc ts K c0 s0 S pc L [.int v] := by
  intro p l e R s m args below meth c D q A Q C hR H locs ls hP hS hl
  have C0 := C
  obtain ⟨hx, hb, hml, hown, hts, hrt, hlk, hini, hKK, hA, hdf, hdl, htc, hts2⟩ := C
  have hK := hKK.1
  exact W.widen hc1 hs1 (hR _ S hk H locs ls pc _ (Or.inr (Or.inl ⟨rfl, ty, v, hrr, rfl, hnv⟩)) hd hP hS)
theorem J_aret {a : Nat} {n : String} (hrr : rt = some (.object n)) (hd : decode cc pc = .ok (.areturn, 1)) (hc1 : c0 ≤ tc) (hs1 : s0 ≤ ts) (hk : K (some (.ref a)) S)  : Jd y cc nL rt d tc ts K c0 s0 S pc L [.ref a] := by
  intro p l e R s m args below meth c D q A Q C hR H locs ls hP hS hl
  have C0 := C
  obtain ⟨hx, hb, hml, hown, hts, hrt, hlk, hini, hKK, hA, hdf, hdl, htc, hts2⟩ := C
  have hK := hKK.1
  exact W.widen hc1 hs1 (hR _ S hk H locs ls pc _ (Or.inr (Or.inr ⟨rfl, n, a, hrr, rfl⟩)) hd hP hS)
end JR
