/-! 37.lrows: rows of the law; the two worlds side by side -/
/-- as Jd; the script of nS numbers xs lies at bS, outside the pool -/
def JdL (bS nS : Nat) (xs : Nat → Int32) (y : MethodName) (cc : ByteArray) (nL : Nat) (rt : Option FieldType) (d tc ts : Nat) (K : Option Value → pS → Prop) (c0 s0 : Nat) (S : pS) (pc : Nat) (L : List (Option Value)) (st : List Value) : Prop :=
  ∀ (p : Program) (l : Launch) (e : Env) (R : Room) (s : State) (m : MethodId) (args : Array Value) (below : List Frame) (meth : Method) (c : Code) (D : va_G) (q : qC) (A : Nat → Prop) (Q : State → Prop),
    Cx p R s m args meth c D q A y cc nL rt d tc ts → (va_X bS nS xs s s.heap ∧ bS < s.heap.size ∧ ¬ A bS) →
    (∀ (r : Option Value) (S' : pS), K r S' → RetW p l e R s m args below meth c D q A Q cc rt tc ts r S') →
    ∀ (H : Heap) (locs : List Loc) (ls : Array Slot), pH D q A S H → va_S A s.heap H locs → lvL ls nL L → W p l e R s m args below meth c H locs c0 s0 Q (F0 m pc ls st)
section JRL
variable {bS nS : Nat} {xs : Nat → Int32} {y : MethodName} {cc : ByteArray} {nL : Nat} {rt : Option FieldType} {d tc ts : Nat} {K : Option Value → pS → Prop} {c0 s0 : Nat} {S : pS} {pc : Nat} {L : List (Option Value)} {st : List Value}
theorem JL_iload_n {pc1 : Nat} {j : Fin 4} {i : Nat} {x : Int32} (hi : (j : Nat) = i) (hL : L[i]? = some (some (.int x))) (hd : decode cc pc = .ok (.iload_n j, 1)) (hp : pc + 1 = pc1) (k : JdL bS nS xs y cc nL rt d tc ts K c0 s0 S pc1 L (.int x :: st)) : JdL bS nS xs y cc nL rt d tc ts K c0 s0 S pc L st := by
  intro p l e R s m args below meth c D q A Q C hXs hR H locs ls hP hS hl
  have C0 := C
  obtain ⟨hx, hb, hml, hown, hts, hrt, hlk, hini, hKK, hA, hdf, hdl, htc, hts2⟩ := C
  have hK := hKK.1
  subst hp
  exact lv_iload_n hx hb hd hi (hl.2.2 i _ hL) (k p l e R s m args below meth c D q A Q C0 hXs hR H locs ls hP hS hl)
theorem JL_aload_n {pc1 : Nat} {j : Fin 4} {i : Nat} {x : Nat} (hi : (j : Nat) = i) (hL : L[i]? = some (some (.ref x))) (hd : decode cc pc = .ok (.aload_n j, 1)) (hp : pc + 1 = pc1) (k : JdL bS nS xs y cc nL rt d tc ts K c0 s0 S pc1 L (.ref x :: st)) : JdL bS nS xs y cc nL rt d tc ts K c0 s0 S pc L st := by
  intro p l e R s m args below meth c D q A Q C hXs hR H locs ls hP hS hl
  have C0 := C
  obtain ⟨hx, hb, hml, hown, hts, hrt, hlk, hini, hKK, hA, hdf, hdl, htc, hts2⟩ := C
  have hK := hKK.1
  subst hp
  exact lv_aload_n hx hb hd hi (hl.2.2 i _ hL) (k p l e R s m args below meth c D q A Q C0 hXs hR H locs ls hP hS hl)
theorem JL_istore_n {pc1 : Nat} {j : Fin 4} {i : Nat} {x : Int32} (hi : (j : Nat) = i) (hd : decode cc pc = .ok (.istore_n j, 1)) (hp : pc + 1 = pc1) (hn : i < nL) (hc : noL L i = true) {L1 : List (Option Value)} (hk1 : (L.set i (some (.int x))) = L1) (k : JdL bS nS xs y cc nL rt d tc ts K c0 s0 S pc1 L1 st) : JdL bS nS xs y cc nL rt d tc ts K c0 s0 S pc L ((.int x) :: st) := by
  intro p l e R s m args below meth c D q A Q C hXs hR H locs ls hP hS hl
  have C0 := C
  obtain ⟨hx, hb, hml, hown, hts, hrt, hlk, hini, hKK, hA, hdf, hdl, htc, hts2⟩ := C
  have hK := hKK.1
  subst hp
  refine lv_istore_n (lv := lvp L) hx hb hd hi hl.has hn rfl (fun ls1 h1 => ?_)
  subst hk1
  exact k p l e R s m args below meth c D q A Q C0 hXs hR H locs ls1 hP hS (lvL.set1 hc h1)
theorem JL_astore_n {pc1 : Nat} {j : Fin 4} {i : Nat} {x : Nat} (hi : (j : Nat) = i) (hd : decode cc pc = .ok (.astore_n j, 1)) (hp : pc + 1 = pc1) (hn : i < nL) (hc : noL L i = true) {L1 : List (Option Value)} (hk1 : (L.set i (some (.ref x))) = L1) (k : JdL bS nS xs y cc nL rt d tc ts K c0 s0 S pc1 L1 st) : JdL bS nS xs y cc nL rt d tc ts K c0 s0 S pc L ((.ref x) :: st) := by
  intro p l e R s m args below meth c D q A Q C hXs hR H locs ls hP hS hl
  have C0 := C
  obtain ⟨hx, hb, hml, hown, hts, hrt, hlk, hini, hKK, hA, hdf, hdl, htc, hts2⟩ := C
  have hK := hKK.1
  subst hp
  refine lv_astore_n (lv := lvp L) hx hb hd hi hl.has hn rfl (fun ls1 h1 => ?_)
  subst hk1
  exact k p l e R s m args below meth c D q A Q C0 hXs hR H locs ls1 hP hS (lvL.set1 hc h1)
theorem JL_iconst {pc1 : Nat} {n : Int} (hd : decode cc pc = .ok (.iconst n, 1)) (hp : pc + 1 = pc1) (k : JdL bS nS xs y cc nL rt d tc ts K c0 s0 S pc1 L (.int (iI n) :: st)) : JdL bS nS xs y cc nL rt d tc ts K c0 s0 S pc L st := by
  intro p l e R s m args below meth c D q A Q C hXs hR H locs ls hP hS hl
  have C0 := C
  obtain ⟨hx, hb, hml, hown, hts, hrt, hlk, hini, hKK, hA, hdf, hdl, htc, hts2⟩ := C
  have hK := hKK.1
  subst hp
  exact lv_iconst hx hb hd rfl (k p l e R s m args below meth c D q A Q C0 hXs hR H locs ls hP hS hl)
theorem JL_bipush {pc1 : Nat} {n : Int} (hv : (Int8.ofInt n).toInt32 = iI n) (hd : decode cc pc = .ok (.bipush n, 2)) (hp : pc + 2 = pc1) (k : JdL bS nS xs y cc nL rt d tc ts K c0 s0 S pc1 L (.int (iI n) :: st)) : JdL bS nS xs y cc nL rt d tc ts K c0 s0 S pc L st := by
  intro p l e R s m args below meth c D q A Q C hXs hR H locs ls hP hS hl
  have C0 := C
  obtain ⟨hx, hb, hml, hown, hts, hrt, hlk, hini, hKK, hA, hdf, hdl, htc, hts2⟩ := C
  have hK := hKK.1
  subst hp
  exact lv_bipush hx hb hd hv (k p l e R s m args below meth c D q A Q C0 hXs hR H locs ls hP hS hl)
theorem JL_iadd {pc1 : Nat} {a b : Int} (hd : decode cc pc = .ok (.iadd, 1)) (hp : pc + 1 = pc1) (k : JdL bS nS xs y cc nL rt d tc ts K c0 s0 S pc1 L (.int (iI (a + b)) :: st)) : JdL bS nS xs y cc nL rt d tc ts K c0 s0 S pc L (.int (iI b) :: .int (iI a) :: st) := by
  intro p l e R s m args below meth c D q A Q C hXs hR H locs ls hP hS hl
  have C0 := C
  obtain ⟨hx, hb, hml, hown, hts, hrt, hlk, hini, hKK, hA, hdf, hdl, htc, hts2⟩ := C
  have hK := hKK.1
  subst hp
  refine lv_iadd hx hb hd ?_
  rw [iI_add]
  exact k p l e R s m args below meth c D q A Q C0 hXs hR H locs ls hP hS hl
theorem JL_isub {pc1 : Nat} {a b : Int} (hd : decode cc pc = .ok (.isub, 1)) (hp : pc + 1 = pc1) (k : JdL bS nS xs y cc nL rt d tc ts K c0 s0 S pc1 L (.int (iI (a - b)) :: st)) : JdL bS nS xs y cc nL rt d tc ts K c0 s0 S pc L (.int (iI b) :: .int (iI a) :: st) := by
  intro p l e R s m args below meth c D q A Q C hXs hR H locs ls hP hS hl
  have C0 := C
  obtain ⟨hx, hb, hml, hown, hts, hrt, hlk, hini, hKK, hA, hdf, hdl, htc, hts2⟩ := C
  have hK := hKK.1
  subst hp
  refine lv_isub hx hb hd ?_
  rw [iI_sub]
  exact k p l e R s m args below meth c D q A Q C0 hXs hR H locs ls hP hS hl
theorem JL_iand {pc1 : Nat} {a b : Int32} (hd : decode cc pc = .ok (.iand, 1)) (hp : pc + 1 = pc1) (k : JdL bS nS xs y cc nL rt d tc ts K c0 s0 S pc1 L (.int (a &&& b) :: st)) : JdL bS nS xs y cc nL rt d tc ts K c0 s0 S pc L (.int b :: .int a :: st) := by
  intro p l e R s m args below meth c D q A Q C hXs hR H locs ls hP hS hl
  have C0 := C
  obtain ⟨hx, hb, hml, hown, hts, hrt, hlk, hini, hKK, hA, hdf, hdl, htc, hts2⟩ := C
  have hK := hKK.1
  subst hp
  exact lv_iand hx hb hd (k p l e R s m args below meth c D q A Q C0 hXs hR H locs ls hP hS hl)
theorem JL_icmp_gt {off : Int} {tgt pc1 : Nat} {a b : Int} (a1 : -2147483648 ≤ a) (a2 : a < 2147483648) (b1 : -2147483648 ≤ b) (b2 : b < 2147483648) (hd : decode cc pc = .ok (.if_icmp .gt off, 3)) (ht : (pc : Int) + off = (tgt : Int)) (hp : pc + 3 = pc1) (kt : b < a → JdL bS nS xs y cc nL rt d tc ts K c0 s0 S tgt L st) (kf : ¬ b < a → JdL bS nS xs y cc nL rt d tc ts K c0 s0 S pc1 L st) : JdL bS nS xs y cc nL rt d tc ts K c0 s0 S pc L (.int (iI b) :: .int (iI a) :: st) := by
  intro p l e R s m args below meth c D q A Q C hXs hR H locs ls hP hS hl
  have C0 := C
  obtain ⟨hx, hb, hml, hown, hts, hrt, hlk, hini, hKK, hA, hdf, hdl, htc, hts2⟩ := C
  have hK := hKK.1
  subst hp
  exact lv_icmp_gt hx hb hd ht (fun h9 => kt ((iI_lt (a := b) (b := a) b1 b2 a1 a2).mp h9) p l e R s m args below meth c D q A Q C0 hXs hR H locs ls hP hS hl) (fun h9 => kf (fun z => h9 ((iI_lt (a := b) (b := a) b1 b2 a1 a2).mpr z)) p l e R s m args below meth c D q A Q C0 hXs hR H locs ls hP hS hl)
theorem JL_tableIn {dflt lo hi off : Int} {offs : Array Int} {len tgt : Nat} {a : Int} (a1 : -2147483648 ≤ a) (a2 : a < 2147483648) (hd : decode cc pc = .ok (.tableswitch dflt lo hi offs, len)) (h1 : ¬ a < lo) (h2 : ¬ hi < a) (ho : offs[(a - lo).toNat]? = some off) (ht : (pc : Int) + off = (tgt : Int)) (k : JdL bS nS xs y cc nL rt d tc ts K c0 s0 S tgt L st) : JdL bS nS xs y cc nL rt d tc ts K c0 s0 S pc L (.int (iI a) :: st) := by
  intro p l e R s m args below meth c D q A Q C hXs hR H locs ls hP hS hl
  have C0 := C
  obtain ⟨hx, hb, hml, hown, hts, hrt, hlk, hini, hKK, hA, hdf, hdl, htc, hts2⟩ := C
  have hK := hKK.1
  exact lv_tableIn hx hb hd (by rw [iI_to a1 a2]; exact h1) (by rw [iI_to a1 a2]; exact h2) (by rw [iI_to a1 a2]; exact ho) ht (k p l e R s m args below meth c D q A Q C0 hXs hR H locs ls hP hS hl)
theorem JL_tableOut {dflt lo hi : Int} {offs : Array Int} {len tgt : Nat} {a : Int} (a1 : -2147483648 ≤ a) (a2 : a < 2147483648) (hd : decode cc pc = .ok (.tableswitch dflt lo hi offs, len)) (h : a < lo ∨ hi < a) (ht : (pc : Int) + dflt = (tgt : Int)) (k : JdL bS nS xs y cc nL rt d tc ts K c0 s0 S tgt L st) : JdL bS nS xs y cc nL rt d tc ts K c0 s0 S pc L (.int (iI a) :: st) := by
  intro p l e R s m args below meth c D q A Q C hXs hR H locs ls hP hS hl
  have C0 := C
  obtain ⟨hx, hb, hml, hown, hts, hrt, hlk, hini, hKK, hA, hdf, hdl, htc, hts2⟩ := C
  have hK := hKK.1
  exact lv_tableOut hx hb hd (by rw [iI_to a1 a2]; exact h) ht (k p l e R s m args below meth c D q A Q C0 hXs hR H locs ls hP hS hl)
theorem JL_goto {off : Int} {tgt : Nat} (hd : decode cc pc = .ok (.goto off, 3)) (ht : (pc : Int) + off = (tgt : Int)) (k : JdL bS nS xs y cc nL rt d tc ts K c0 s0 S tgt L st) : JdL bS nS xs y cc nL rt d tc ts K c0 s0 S pc L st := by
  intro p l e R s m args below meth c D q A Q C hXs hR H locs ls hP hS hl
  have C0 := C
  obtain ⟨hx, hb, hml, hown, hts, hrt, hlk, hini, hKK, hA, hdf, hdl, htc, hts2⟩ := C
  have hK := hKK.1
  exact lv_goto hx hb hd ht (k p l e R s m args below meth c D q A Q C0 hXs hR H locs ls hP hS hl)
theorem JL_iinc {pc1 i : Nat} {n a : Int} (hd : decode cc pc = .ok (.iinc i n, 3)) (hp : pc + 3 = pc1) (hL : L[i]? = some (some (.int (iI a)))) (hn : i < nL) (hc : noL L i = true) {L1 : List (Option Value)} (hk1 : L.set i (some (.int (iI (a + n)))) = L1) (k : JdL bS nS xs y cc nL rt d tc ts K c0 s0 S pc1 L1 st) : JdL bS nS xs y cc nL rt d tc ts K c0 s0 S pc L st := by
  intro p l e R s m args below meth c D q A Q C hXs hR H locs ls hP hS hl
  have C0 := C
  obtain ⟨hx, hb, hml, hown, hts, hrt, hlk, hini, hKK, hA, hdf, hdl, htc, hts2⟩ := C
  have hK := hKK.1
  subst hp
  subst hk1
  obtain ⟨kk, hkk⟩ := List.getElem?_of_mem (lvp_mem.mpr hL)
  exact lv_iinc (lv := lvp L) (v := iI (a + n)) hx hb hd hl.has hkk (iI_add a n) hn rfl (fun ls1 h1 => k p l e R s m args below meth c D q A Q C0 hXs hR H locs ls1 hP hS (lvL.set1 hc h1))
theorem JL_iret {v : Int32} {ty : FieldType} (hrr : rt = some ty) (hnv : narrow ty (.int v) = .int v) (hd : decode cc pc = .ok (.ireturn, 1)) (hc1 : c0 ≤ tc) (hs1 : s0 ≤ ts) (hk : K (some (.int v)) S)  : JdL bS nS xs y cc nL rt d tc ts K c0 s0 S pc L [.int v] := by
  intro p l e R s m args below meth c D q A Q C hXs hR H locs ls hP hS hl
  have C0 := C
  obtain ⟨hx, hb, hml, hown, hts, hrt, hlk, hini, hKK, hA, hdf, hdl, htc, hts2⟩ := C
  have hK := hKK.1
  exact W.widen hc1 hs1 (hR _ S hk H locs ls pc _ (Or.inr (Or.inl ⟨rfl, ty, v, hrr, rfl, hnv⟩)) hd hP hS)
theorem JL_i2l {pc1 : Nat} {x : Int32} (hd : decode cc pc = .ok (.i2l, 1)) (hp : pc + 1 = pc1) (k : JdL bS nS xs y cc nL rt d tc ts K c0 s0 S pc1 L (.long x.toInt64 :: st)) : JdL bS nS xs y cc nL rt d tc ts K c0 s0 S pc L (.int x :: st) := by
  intro p l e R s m args below meth c D q A Q C hXs hR H locs ls hP hS hl
  have C0 := C
  obtain ⟨hx, hb, hml, hown, hts, hrt, hlk, hini, hKK, hA, hdf, hdl, htc, hts2⟩ := C
  have hK := hKK.1
  subst hp
  exact lv_i2l hx hb hd rfl (k p l e R s m args below meth c D q A Q C0 hXs hR H locs ls hP hS hl)
theorem JL_lshl {pc1 : Nat} {a v : Int64} {b : Int32} (hv : a <<< (b.toInt64 &&& 63) = v) (hd : decode cc pc = .ok (.lshl, 1)) (hp : pc + 1 = pc1) (k : JdL bS nS xs y cc nL rt d tc ts K c0 s0 S pc1 L (.long v :: st)) : JdL bS nS xs y cc nL rt d tc ts K c0 s0 S pc L (.int b :: .long a :: st) := by
  intro p l e R s m args below meth c D q A Q C hXs hR H locs ls hP hS hl
  have C0 := C
  obtain ⟨hx, hb, hml, hown, hts, hrt, hlk, hini, hKK, hA, hdf, hdl, htc, hts2⟩ := C
  have hK := hKK.1
  subst hp
  exact lv_lshl hx hb hd hv (k p l e R s m args below meth c D q A Q C0 hXs hR H locs ls hP hS hl)
theorem JL_ldc2 {pc1 : Nat} {ix : Nat} {v : Int64} (hw : Cond.constantLong y.cls ix v ∈ wsU) (hd : decode cc pc = .ok (.ldc2_w ix, 3)) (hp : pc + 3 = pc1) (k : JdL bS nS xs y cc nL rt d tc ts K c0 s0 S pc1 L (.long v :: st)) : JdL bS nS xs y cc nL rt d tc ts K c0 s0 S pc L st := by
  intro p l e R s m args below meth c D q A Q C hXs hR H locs ls hP hS hl
  have C0 := C
  obtain ⟨hx, hb, hml, hown, hts, hrt, hlk, hini, hKK, hA, hdf, hdl, htc, hts2⟩ := C
  have hK := hKK.1
  subst hp
  exact lv_ldc2 hx hb hown (hts _ hw) hd (k p l e R s m args below meth c D q A Q C0 hXs hR H locs ls hP hS hl)
theorem JL_land {pc1 : Nat} {a b : Int64} (hd : decode cc pc = .ok (.land, 1)) (hp : pc + 1 = pc1) (k : JdL bS nS xs y cc nL rt d tc ts K c0 s0 S pc1 L (.long (a &&& b) :: st)) : JdL bS nS xs y cc nL rt d tc ts K c0 s0 S pc L (.long b :: .long a :: st) := by
  intro p l e R s m args below meth c D q A Q C hXs hR H locs ls hP hS hl
  have C0 := C
  obtain ⟨hx, hb, hml, hown, hts, hrt, hlk, hini, hKK, hA, hdf, hdl, htc, hts2⟩ := C
  have hK := hKK.1
  subst hp
  exact lv_land hx hb hd (k p l e R s m args below meth c D q A Q C0 hXs hR H locs ls hP hS hl)
theorem JL_lor {pc1 : Nat} {a b : Int64} (hd : decode cc pc = .ok (.lor, 1)) (hp : pc + 1 = pc1) (k : JdL bS nS xs y cc nL rt d tc ts K c0 s0 S pc1 L (.long (a ||| b) :: st)) : JdL bS nS xs y cc nL rt d tc ts K c0 s0 S pc L (.long b :: .long a :: st) := by
  intro p l e R s m args below meth c D q A Q C hXs hR H locs ls hP hS hl
  have C0 := C
  obtain ⟨hx, hb, hml, hown, hts, hrt, hlk, hini, hKK, hA, hdf, hdl, htc, hts2⟩ := C
  have hK := hKK.1
  subst hp
  exact lv_lor hx hb hd (k p l e R s m args below meth c D q A Q C0 hXs hR H locs ls hP hS hl)
theorem JL_new {pc1 ci ix N : Nat} {C : String} {T : u_T} {fs : List Value} (hin : ∀ w ∈ u_ws C T N, w ∈ wsU) (hc : vwCl[ci]? = some (C, T, N)) (ty0 : Nat → FieldType) (hty : ∀ k, k < N → parseFieldDescriptor (T k).2.2.1 = some (ty0 k)) (hw : Cond.classLink y.cls ix C ∈ wsU) (hw2 : Cond.instantiable C N ∈ wsU) (hw3 : Cond.initialized C ∈ wsU) (hfs : ∀ j, j < N → defaultValue (ty0 j) = vp_V fs j) (hd : decode cc pc = .ok (.new ix, 3)) (hp : pc + 3 = pc1) (hc1 : c0 + 1 ≤ tc) (hs1 : s0 + N ≤ ts) (k : ∀ a : Nat, S a = none → JdL bS nS xs y cc nL rt d tc ts K (c0 + 1) (s0 + N) (pu S a (oO ci fs)) pc1 L (.ref a :: st)) : JdL bS nS xs y cc nL rt d tc ts K c0 s0 S pc L st := by
  intro p l e R s m args below meth c D q A Q C hXs hR H locs ls hP hS hl
  have C0 := C
  obtain ⟨hx, hb, hml, hown, hts, hrt, hlk, hini, hKK, hA, hdf, hdl, htc, hts2⟩ := C
  have hK := hKK.1
  subst hp
  obtain ⟨L1, f1, h1, h2, g1, g2⟩ := hP
  refine va_new hx hb hts hin ty0 hty hown (hts _ hw) (hts _ hw2) (hts _ hw3) hK g1 g2 hS hA hc hfs (Nat.le_trans hc1 htc) (Nat.le_trans hs1 hts2) hd (fun a H1 p1 p2 p3 => ?_)
  obtain ⟨n1, n2⟩ := pH.new (e := oO ci fs) h1 h2 p1 p2
  exact k a n1 p l e R s m args below meth c D q A Q C0 hXs hR H1 locs ls n2 p3 hl
theorem JL_callV {y1 : MethodName} {cc1 : ByteArray} {nL1 : Nat} {rt1 : Option FieldType} {d1 mc ms n : Nat} {As : List Value} {K1 : Option Value → pS → Prop} {pc1 ix b ci N : Nat} {C : String} {T9 : u_T} {fs : List Value} {stk : List Value} (hG : GoodIn wsU (wsV y.cls ix C y1 (.code y1 cc1 nL1 rt1 :: wsU))) (hy : y1.cls = C ∧ y1.cls ≠ "java/lang/invoke/MethodHandle" ∧ y1.cls ≠ "java/lang/invoke/VarHandle" ∧ (parseMethodDescriptor y1.desc).map (fun d => d.parameters.length) = some n) (hc : vwCl[ci]? = some (C, T9, N)) (hM : Ct y1 cc1 nL1 rt1 d1 mc ms (.ref b :: As) S K1) (hd : decode cc pc = .ok (.invokevirtual ix, 3)) (hp : pc + 3 = pc1) (ha : S b = some (oO ci fs)) (hst : stk = As.reverse ++ .ref b :: st) (hn : As.length = n) (hdd : d1 + 1 ≤ d) (hnl : nL1 ≤ 21) (hcc : c0 + mc ≤ tc) (hss : s0 + ms ≤ ts) (hrm : (st.map fun v => v.category).sum ≤ 8) (k : ∀ (r : Option Value) (S1 : pS), K1 r S1 → JdL bS nS xs y cc nL rt d tc ts K (c0 + mc) (s0 + ms) S1 pc1 L (r.toList ++ st)) : JdL bS nS xs y cc nL rt d tc ts K c0 s0 S pc L stk := by
  intro p l e R s m args below meth c D q A Q C hXs hR H locs ls hP hS hl
  have C0 := C
  obtain ⟨hx, hb, hml, hown, hts, hrt, hlk, hini, hKK, hA, hdf, hdl, htc, hts2⟩ := C
  have hK := hKK.1
  obtain ⟨L1, f9, k1, g1, g2, g3, -⟩ := hP.at ha
  subst hp
  subst hst
  have hrun := va_runV (H := H) (locs := locs) (cells := c0) (slots := s0) (e := e) (meth := meth) (below := below) (g := F0 m pc ls (As.reverse ++ .ref b :: st)) (rest := st) (As := As) (b := b) ⟨hx, hb, hml, hown, hts⟩ (hM d1 (Nat.le_refl _) l D q H.size) (cwV (R := R) n hts hG rfl rfl rfl hy ⟨by show d1 + 1 ≤ _; omega, by show 8 + (nL1 + 11) + 40 * d1 ≤ _; omega⟩) ⟨fun a U g mk z => by obtain ⟨q0, q1, q2, q3⟩ := z; exact ⟨q0, q1, q2, KK.same (u := U) (U := U.calling g mk a) rfl q3⟩, va_recv hK g1 hc g3, fun U hU hW => ⟨rfl, by rw [hU], by rw [hU]; exact hP.weaken (fun _ _ _ _ => trivial), KK.warm hW hKK⟩⟩ rfl hn (hl.1) rfl (lv_room hrm) hd ⟨Nat.le_trans hcc htc, Nat.le_trans hss hts2⟩
  intro T hT X
  obtain ⟨v, st₀, t, T1, L9, e0, X1, hL9, e1, e2, ⟨⟨r, S1, hoc, hKr, hP1⟩, hF⟩, hgo⟩ := hrun T hT X
  cases hoc
  have hA1 : ∀ x : Nat, aS S H.size x → A x := fun x hx9 => hx9.elim (fun ⟨e9, he9⟩ => hP.inA he9) (fun h9 => hA x (Nat.le_trans hS.1 h9))
  rw [← e1] at hP1
  obtain ⟨f1, f2⟩ := hF
  rw [e0, ← e1] at f1 f2
  have hS1 : va_S A s.heap T1.heap (locs ++ L9) := ⟨Nat.le_trans hS.1 f1, fun x h1 h2 => (f2 x (Nat.lt_of_lt_of_le h1 hS.1) (fun z => h2 (hA1 x z))).trans (hS.2.1 x h1 h2), fun x hx9 => (List.mem_append.mp hx9).elim (hS.2.2 x) (fun z => hA1 _ (hL9 x z))⟩
  obtain ⟨t2, a1, b1⟩ := k v S1 hKr p l e R s m args below meth c D q A Q C0 hXs hR T1.heap (locs ++ L9) ls (hP1.weaken (fun x e9 _ z => hA1 x z)) hS1 hl T1 rfl X1
  exact ⟨t2, hgo t2 a1, b1⟩
theorem JL_callI {y1 : MethodName} {cc1 : ByteArray} {nL1 : Nat} {d1 mc ms n : Nat} {As : List Value} {K1 : Option Value → pS → Prop} {pc1 ix b : Nat} {stk : List Value} (hG : GoodIn wsU (.code y1 cc1 nL1 none :: wsU)) (hy : y1.name = "<init>" ∧ y1.cls ≠ "java/lang/invoke/MethodHandle" ∧ y1.cls ≠ "java/lang/invoke/VarHandle" ∧ (parseMethodDescriptor y1.desc).map (fun d => d.parameters.length) = some n) (hw1 : Cond.initialized y1.cls ∈ wsU) (hw2 : Cond.methodLink y.cls ix y1 ∈ wsU) (hw3 : Cond.instanceMethod y1 ∈ wsU) (hM : Ct y1 cc1 nL1 none d1 mc ms (.ref b :: As) S K1) (hd : decode cc pc = .ok (.invokespecial ix, 3)) (hp : pc + 3 = pc1) (hst : stk = As.reverse ++ .ref b :: st) (hn : As.length = n) (hdd : d1 + 1 ≤ d) (hnl : nL1 ≤ 21) (hcc : c0 + mc ≤ tc) (hss : s0 + ms ≤ ts) (hrm : (st.map fun v => v.category).sum ≤ 8) (k : ∀ (r : Option Value) (S1 : pS), K1 r S1 → JdL bS nS xs y cc nL rt d tc ts K (c0 + mc) (s0 + ms) S1 pc1 L (r.toList ++ st)) : JdL bS nS xs y cc nL rt d tc ts K c0 s0 S pc L stk := by
  intro p l e R s m args below meth c D q A Q C hXs hR H locs ls hP hS hl
  have C0 := C
  obtain ⟨hx, hb, hml, hown, hts, hrt, hlk, hini, hKK, hA, hdf, hdl, htc, hts2⟩ := C
  have hK := hKK.1
  subst hp
  subst hst
  have hrun := va_runI (H := H) (locs := locs) (cells := c0) (slots := s0) (e := e) (meth := meth) (below := below) (g := F0 m pc ls (As.reverse ++ .ref b :: st)) (rest := st) (As := As) (b := b) ⟨hx, hb, hml, hown, hts⟩ (hM d1 (Nat.le_refl _) l D q H.size) (cwI (R := R) n hts hG rfl rfl rfl (hts _ hw1) (hts _ hw2) (hts _ hw3) hy.1 hy.2 ⟨by show d1 + 1 ≤ _; omega, by show 8 + (nL1 + 11) + 40 * d1 ≤ _; omega⟩) ⟨fun a U g mk z => by obtain ⟨q0, q1, q2, q3⟩ := z; exact ⟨q0, q1, q2, KK.same (u := U) (U := U.calling g mk a) rfl q3⟩, fun U hU hW => ⟨rfl, by rw [hU], by rw [hU]; exact hP.weaken (fun _ _ _ _ => trivial), KK.warm hW hKK⟩⟩ rfl hn (hl.1) rfl (lv_room hrm) hd ⟨Nat.le_trans hcc htc, Nat.le_trans hss hts2⟩
  intro T hT X
  obtain ⟨v, st₀, t, T1, L9, e0, X1, hL9, e1, e2, ⟨⟨r, S1, hoc, hKr, hP1⟩, hF⟩, hgo⟩ := hrun T hT X
  cases hoc
  have hA1 : ∀ x : Nat, aS S H.size x → A x := fun x hx9 => hx9.elim (fun ⟨e9, he9⟩ => hP.inA he9) (fun h9 => hA x (Nat.le_trans hS.1 h9))
  rw [← e1] at hP1
  obtain ⟨f1, f2⟩ := hF
  rw [e0, ← e1] at f1 f2
  have hS1 : va_S A s.heap T1.heap (locs ++ L9) := ⟨Nat.le_trans hS.1 f1, fun x h1 h2 => (f2 x (Nat.lt_of_lt_of_le h1 hS.1) (fun z => h2 (hA1 x z))).trans (hS.2.1 x h1 h2), fun x hx9 => (List.mem_append.mp hx9).elim (hS.2.2 x) (fun z => hA1 _ (hL9 x z))⟩
  obtain ⟨t2, a1, b1⟩ := k v S1 hKr p l e R s m args below meth c D q A Q C0 hXs hR T1.heap (locs ++ L9) ls (hP1.weaken (fun x e9 _ z => hA1 x z)) hS1 hl T1 rfl X1
  exact ⟨t2, hgo t2 a1, b1⟩
theorem JL_dup {pc1 : Nat} {v : Value} (hv : v.category = 1) (hd : decode cc pc = .ok (.dup, 1)) (hp : pc + 1 = pc1) (k : JdL bS nS xs y cc nL rt d tc ts K c0 s0 S pc1 L (v :: v :: st)) : JdL bS nS xs y cc nL rt d tc ts K c0 s0 S pc L (v :: st) := by
  intro p l e R s m args below meth c D q A Q C hXs hR H locs ls hP hS hl
  have C0 := C
  obtain ⟨hx, hb, hml, hown, hts, hrt, hlk, hini, hKK, hA, hdf, hdl, htc, hts2⟩ := C
  have hK := hKK.1
  subst hp
  exact lv_dup hx hb hd hv (k p l e R s m args below meth c D q A Q C0 hXs hR H locs ls hP hS hl)
theorem JL_widen {c1 s1 : Nat} (hc1 : c0 ≤ c1) (hs1 : s0 ≤ s1) (k : JdL bS nS xs y cc nL rt d tc ts K c1 s1 S pc L st) : JdL bS nS xs y cc nL rt d tc ts K c0 s0 S pc L st := by
  intro p l e R s m args below meth c D q A Q C hXs hR H locs ls hP hS hl
  have C0 := C
  obtain ⟨hx, hb, hml, hown, hts, hrt, hlk, hini, hKK, hA, hdf, hdl, htc, hts2⟩ := C
  have hK := hKK.1
  exact W.widen hc1 hs1 (k p l e R s m args below meth c D q A Q C0 hXs hR H locs ls hP hS hl)
theorem JL_sld {pc1 : Nat} {z : Int} {v : Int32} (hd : decode cc pc = .ok (.iaload, 1)) (hp : pc + 1 = pc1) (h0 : 0 ≤ z) (h1 : z < nS) (hn : nS < 2147483648) (hv : xs z.toNat = v) (k : JdL bS nS xs y cc nL rt d tc ts K c0 s0 S pc1 L (.int v :: st)) : JdL bS nS xs y cc nL rt d tc ts K c0 s0 S pc L (.int (iI z) :: .ref bS :: st) := by
  intro p l e R s m args below meth c D q A Q C hXs hR H locs ls hP hS hl
  have C0 := C
  obtain ⟨hx, hb, hml, hown, hts, hrt, hlk, hini, hKK, hA, hdf, hdl, htc, hts2⟩ := C
  subst hp
  subst hv
  refine va_sld hx hb hXs.1 hXs.2.1 hXs.2.2 hS (iI_in h0 h1 hn) hd ?_
  rw [iI_cl h0 (by omega)]
  exact k p l e R s m args below meth c D q A Q C0 hXs hR H locs ls hP hS hl
theorem JL_slen {pc1 : Nat} (hd : decode cc pc = .ok (.arraylength, 1)) (hp : pc + 1 = pc1) (k : JdL bS nS xs y cc nL rt d tc ts K c0 s0 S pc1 L (.int (iI (nS : Int)) :: st)) : JdL bS nS xs y cc nL rt d tc ts K c0 s0 S pc L (.ref bS :: st) := by
  intro p l e R s m args below meth c D q A Q C hXs hR H locs ls hP hS hl
  have C0 := C
  obtain ⟨hx, hb, hml, hown, hts, hrt, hlk, hini, hKK, hA, hdf, hdl, htc, hts2⟩ := C
  subst hp
  refine va_slen hx hb hXs.1 hXs.2.1 hXs.2.2 hS hd ?_
  rw [show Int32.ofNat nS = iI (nS : Int) from (Int32.ofInt_eq_ofNat (n := nS)).symm]
  exact k p l e R s m args below meth c D q A Q C0 hXs hR H locs ls hP hS hl
theorem JL_same {off : Int} {tgt : Nat} {v : Int32} (hd : decode cc pc = .ok (.if_icmp .eq off, 3)) (ht : (pc : Int) + off = (tgt : Int)) (k : JdL bS nS xs y cc nL rt d tc ts K c0 s0 S tgt L st) : JdL bS nS xs y cc nL rt d tc ts K c0 s0 S pc L (.int v :: .int v :: st) := by
  intro p l e R s m args below meth c D q A Q C hXs hR H locs ls hP hS hl
  have C0 := C
  obtain ⟨hx, hb, hml, hown, hts, hrt, hlk, hini, hKK, hA, hdf, hdl, htc, hts2⟩ := C
  exact lv_icmp_eq hx hb hd ht (fun _ => k p l e R s m args below meth c D q A Q C0 hXs hR H locs ls hP hS hl) (fun h9 => absurd rfl h9)
theorem JL_st {st1 : List Value} (h : st = st1) (k : JdL bS nS xs y cc nL rt d tc ts K c0 s0 S pc L st1) : JdL bS nS xs y cc nL rt d tc ts K c0 s0 S pc L st := by rw [h]; exact k
theorem JL_c {c1 s1 : Nat} (h : c0 = c1) (h2 : s0 = s1) (k : JdL bS nS xs y cc nL rt d tc ts K c1 s1 S pc L st) : JdL bS nS xs y cc nL rt d tc ts K c0 s0 S pc L st := by rw [h, h2]; exact k
end JRL
theorem i32_b (x : Int32) : -2147483648 ≤ x.toInt ∧ x.toInt < 2147483648 := ⟨Int32.le_toInt x, Int32.toInt_lt x⟩
/-- the object's world stays when its cells stay -/
theorem XS_gen {X : Nat → Prop} {S T : pS} {A : Nat → Nat} {f f1 f2 : Int → Int} {b0 b1 : Int} {n : Nat} {H : Nat → Int → Int} {tx : Int → Int} {L : Nat} (h : XS X S A f f1 f2 b0 b1 n H tx L) (ko : ∀ {a ci : Nat} {fs : List Value}, S a = some (oO ci fs) → ci ≠ 10 → T a = S a) (ki : ∀ {a k : Nat} {g : Nat → Int32}, S a = some (oI k g) → (a = A 6 ∨ ¬ X a) → T a = S a) (kq : ∀ {a j k : Nat} {g : Nat → Option Nat}, S a = some (oQ j k g) → T a = S a) : XS X T A f f1 f2 b0 b1 n H tx L := by
  obtain ⟨G, Z, O, F, mm, tb, ⟨x0, ⟨h1, ⟨st, h2, h3⟩, h4⟩, x2, x3, x4, x5, ⟨p1, p2, p3⟩, ⟨m1, m2, m3⟩, x8, x9⟩, e⟩ := h
  refine ⟨G, Z, O, F, mm, tb, ⟨(ko x0 (by decide)).trans x0, ⟨(ko h1 (by decide)).trans h1, ⟨st, (kq h2).trans h2, h3⟩, h4⟩, FAM_fr x2 (fun a ci fs ha hc => ko ha (by omega)), (ko x3 (by decide)).trans x3, (ko x4 (by decide)).trans x4, x5, ⟨(ko p1 (by decide)).trans p1, (ki p2 (Or.inl rfl)).trans p2, p3⟩, ⟨(ko m1 (by decide)).trans m1, (kq m2).trans m2, fun E ti ps top t ok ht => ?_⟩, (ko x8 (by decide)).trans x8, (ko x9 (by decide)).trans x9⟩, e⟩
  obtain ⟨ow, fo, tm, w, k, tg, ⟨t1, t2, t3, t4, t5⟩, t6, y1, y2, y3⟩ := m3 E ti ps top t ok ht
  exact ⟨ow, fo, tm, w, k, tg, ⟨(ko t1 (by decide)).trans t1, (ki t2 (Or.inr y1)).trans t2, (ki t3 (Or.inr y2)).trans t3, (ki t4 (Or.inr y3)).trans t4, t5⟩, t6, y1, y2, y3⟩
theorem XS_pad {X : Nat → Prop} {S : pS} {A : Nat → Nat} {f f1 f2 : Int → Int} {b0 b1 : Int} {n : Nat} {H : Nat → Int → Int} {tx : Int → Int} {L : Nat} (h : XS X S A f f1 f2 b0 b1 n H tx L) : S (A 6) = some (aI 60 tx) ∧ L ≤ 60 ∧ ∀ i : Int, 0 ≤ tx i ∧ tx i ≤ 255 := by
  obtain ⟨G, Z, O, F, mm, tb, W, -⟩ := h
  exact W.2.2.2.2.2.2.1.2
theorem XS_0 {X : Nat → Prop} {S : pS} {A : Nat → Nat} {f f1 f2 : Int → Int} {b0 b1 : Int} {n : Nat} {H : Nat → Int → Int} {tx : Int → Int} {L : Nat} (h : XS X S A f f1 f2 b0 b1 n H tx L) : ∃ fs, S (A 0) = some (oO 9 fs) := by
  obtain ⟨G, Z, O, F, mm, tb, W, -⟩ := h
  exact ⟨_, W.1⟩
/-- the cells that the object's tables keep away from -/
def RB (A B : Nat → Nat) : Nat → Prop := fun a => a = A 6 ∨ a = B 1 ∨ a = B 2 ∨ a = B 3 ∨ a = B 4 ∨ a = B 5 ∨ a = B 6 ∨ a = B 7
/-- both objects hold one state -/
def INV (A B : Nat → Nat) (S : pS) : Prop := ∃ (f f1 f2 : Int → Int) (b0 b1 : Int) (n : Nat) (H : Nat → Int → Int) (tx : Int → Int) (L : Nat), XS (RB A B) S A f f1 f2 b0 b1 n H tx L ∧ MS S B f f1 f2 b0 b1 n H tx L ∧ okX f f1 f2 b0 b1 n H ∧ A 6 ≠ B 6
theorem RX_INV {S : pS} {A B : Nat → Nat} {f f1 f2 : Int → Int} {b0 b1 : Int} {n : Nat} {H : Nat → Int → Int} {tx : Int → Int} {L : Nat} (hX : XS (RB A B) S A f f1 f2 b0 b1 n H tx L) (hM : MS S B f f1 f2 b0 b1 n H tx L) : RX (RB A B) S := by
  obtain ⟨hs, sl, sv, ti, to, ik, kr, ks, sp, nu, rd, W, -⟩ := hM
  intro a ha
  rcases ha with rfl | rfl | rfl | rfl | rfl | rfl | rfl | rfl
  · exact ⟨_, _, (XS_pad hX).1⟩
  · exact ⟨_, _, W.2.1⟩
  · exact ⟨_, _, W.2.2.1⟩
  · exact ⟨_, _, W.2.2.2.1⟩
  · exact ⟨_, _, W.2.2.2.2.1⟩
  · exact ⟨_, _, W.2.2.2.2.2.1⟩
  · exact ⟨_, _, W.2.2.2.2.2.2.1⟩
  · exact ⟨_, _, W.2.2.2.2.2.2.2⟩
theorem MS_frX {S T : pS} {A B : Nat → Nat} {f f1 f2 : Int → Int} {b0 b1 : Int} {n : Nat} {H : Nat → Int → Int} {tx : Int → Int} {L : Nat} (hX : S (A 6) = some (aI 60 tx)) (h6 : A 6 ≠ B 6) (hM : MS S B f f1 f2 b0 b1 n H tx L) (fr : frX S T (A 6)) : MS T B f f1 f2 b0 b1 n H tx L := by
  obtain ⟨hs, sl, sv, ti, to, ik, kr, ks, sp, nu, rd, W, z⟩ := hM
  obtain ⟨w0, w1, w2, w3, w4, w5, w6, w7⟩ := W
  exact ⟨hs, sl, sv, ti, to, ik, kr, ks, sp, nu, rd, ⟨(fr.1 _ _ w0).trans w0, (fr.2 _ _ _ w1 (ne_II w1 hX (by decide))).trans w1, (fr.2 _ _ _ w2 (ne_II w2 hX (by decide))).trans w2, (fr.2 _ _ _ w3 (ne_II w3 hX (by decide))).trans w3, (fr.2 _ _ _ w4 (ne_II w4 hX (by decide))).trans w4, (fr.2 _ _ _ w5 (ne_II w5 hX (by decide))).trans w5, (fr.2 _ _ _ w6 h6.symm).trans w6, (fr.2 _ _ _ w7 (ne_II w7 hX (by decide))).trans w7⟩, z⟩
theorem XS_frM {S T : pS} {A B : Nat → Nat} {f f1 f2 : Int → Int} {b0 b1 : Int} {n : Nat} {H : Nat → Int → Int} {tx : Int → Int} {L : Nat} {f' f1' f2' : Int → Int} {b0' b1' : Int} {n' : Nat} {H' : Nat → Int → Int} {tx' : Int → Int} {L' : Nat} (hX : XS (RB A B) S A f' f1' f2' b0' b1' n' H' tx' L') (h6 : A 6 ≠ B 6) (hM : MS S B f f1 f2 b0 b1 n H tx L) (fr : frM S T B) : XS (RB A B) T A f' f1' f2' b0' b1' n' H' tx' L' := by
  obtain ⟨hs, sl, sv, ti, to, ik, kr, ks, sp, nu, rd, ⟨w0, w1, w2, w3, w4, w5, w6, w7⟩, z⟩ := hM
  have hp := (XS_pad hX).1
  refine XS_gen hX (fun ha hc => ?_) (fun ha hn => ?_) (fun ha => ?_)
  · exact fr _ (ne_ci ha w0 hc) (ne_OI ha w1) (ne_OI ha w2) (ne_OI ha w3) (ne_OI ha w4) (ne_OI ha w5) (ne_OI ha w6) (ne_OI ha w7)
  · rcases hn with rfl | hn
    · exact fr _ (ne_IO hp w0) (ne_II hp w1 (by decide)) (ne_II hp w2 (by decide)) (ne_II hp w3 (by decide)) (ne_II hp w4 (by decide)) (ne_II hp w5 (by decide)) h6 (ne_II hp w7 (by decide))
    · exact fr _ (ne_IO ha w0) (fun e => hn (Or.inr (Or.inl e))) (fun e => hn (Or.inr (Or.inr (Or.inl e)))) (fun e => hn (Or.inr (Or.inr (Or.inr (Or.inl e))))) (fun e => hn (Or.inr (Or.inr (Or.inr (Or.inr (Or.inl e)))))) (fun e => hn (Or.inr (Or.inr (Or.inr (Or.inr (Or.inr (Or.inl e))))))) (fun e => hn (Or.inr (Or.inr (Or.inr (Or.inr (Or.inr (Or.inr (Or.inl e)))))))) (fun e => hn (Or.inr (Or.inr (Or.inr (Or.inr (Or.inr (Or.inr (Or.inr e))))))))
  · exact fr _ (ne_QO ha w0) (ne_QI ha w1) (ne_QI ha w2) (ne_QI ha w3) (ne_QI ha w4) (ne_QI ha w5) (ne_QI ha w6) (ne_QI ha w7)
/-- a call of both: the answers agree, and so do the states -/
def PR (A B : Nat → Nat) (S : pS) (y1 : MethodName) (cc1 : ByteArray) (nL1 d1 mc ms : Nat) (y2 : MethodName) (cc2 : ByteArray) (nL2 d2 : Nat) (as : List Value) : Prop :=
  ∃ K1, Ct y1 cc1 nL1 (some .int) d1 mc ms (.ref (A 0) :: as) S K1 ∧ ∀ r T, K1 r T → ∃ z : Int, r = some (.int (iI z)) ∧ (∃ fs, T (B 0) = some (oO 10 fs)) ∧ ∃ K2, Ct y2 cc2 nL2 (some .int) d2 0 0 (.ref (B 0) :: as) T K2 ∧ ∀ r2 U, K2 r2 U → r2 = some (.int (iI z)) ∧ INV A B U
section PRR
variable {A B : Nat → Nat} {S : pS} {y1 y2 : MethodName} {cc1 cc2 : ByteArray} {nL1 nL2 d1 d2 mc ms : Nat} {as : List Value} {f f1 f2 : Int → Int} {b0 b1 : Int} {n : Nat} {H : Nat → Int → Int} {tx : Int → Int} {L : Nat} {f' f1' f2' : Int → Int} {b0' b1' : Int} {n' : Nat} {H' : Nat → Int → Int} {tx' : Int → Int} {L' : Nat}
theorem pr_IS {z : Int} (hX : XS (RB A B) S A f f1 f2 b0 b1 n H tx L) (hM : MS S B f f1 f2 b0 b1 n H tx L) (h6 : A 6 ≠ B 6) (ok : okX f' f1' f2' b0' b1' n' H')
    (c1 : Ct y1 cc1 nL1 (some .int) d1 mc ms (.ref (A 0) :: as) S (kIS z (fun T => XS (RB A B) T A f' f1' f2' b0' b1' n' H' tx' L' ∧ frX S T (A 6))))
    (c2 : ∀ T, MS T B f f1 f2 b0 b1 n H tx L → Ct y2 cc2 nL2 (some .int) d2 0 0 (.ref (B 0) :: as) T (kIS z (fun U => MS U B f' f1' f2' b0' b1' n' H' tx' L' ∧ frM T U B))) : PR A B S y1 cc1 nL1 d1 mc ms y2 cc2 nL2 d2 as := by
  refine ⟨_, c1, fun r T h => ?_⟩
  obtain ⟨rfl, hXT, fr⟩ := h
  have hMT := MS_frX (XS_pad hX).1 h6 hM fr
  have h0 : ∃ fs, T (B 0) = some (oO 10 fs) := by
    obtain ⟨hs, sl, sv, ti, to, ik, kr, ks, sp, nu, rd, W, -⟩ := hMT
    exact ⟨_, W.1⟩
  refine ⟨z, rfl, h0, _, c2 T hMT, fun r2 U h2 => ?_⟩
  obtain ⟨rfl, hMU, frU⟩ := h2
  exact ⟨rfl, f', f1', f2', b0', b1', n', H', tx', L', XS_frM hXT h6 hMT frU, hMU, ok, h6⟩
theorem pr_KOR {P : Prop} {x0 x1 : Int} (hX : XS (RB A B) S A f f1 f2 b0 b1 n H tx L) (hM : MS S B f f1 f2 b0 b1 n H tx L) (h6 : A 6 ≠ B 6) (ok : okX f f1 f2 b0 b1 n H) (ok' : P → okX f' f1' f2' b0' b1' n' H')
    (c1 : Ct y1 cc1 nL1 (some .int) d1 mc ms (.ref (A 0) :: as) S (KOR P x0 x1 S (fun T => XS (RB A B) T A f' f1' f2' b0' b1' n' H' tx' L' ∧ frX S T (A 6))))
    (c2 : ∀ T, MS T B f f1 f2 b0 b1 n H tx L → Ct y2 cc2 nL2 (some .int) d2 0 0 (.ref (B 0) :: as) T (KOR P x0 x1 T (fun U => MS U B f' f1' f2' b0' b1' n' H' tx' L' ∧ frM T U B))) : PR A B S y1 cc1 nL1 d1 mc ms y2 cc2 nL2 d2 as := by
  have g0 : ∀ {T}, MS T B f f1 f2 b0 b1 n H tx L → ∃ fs, T (B 0) = some (oO 10 fs) := fun hMT => by
    obtain ⟨hs, sl, sv, ti, to, ik, kr, ks, sp, nu, rd, W, -⟩ := hMT
    exact ⟨_, W.1⟩
  refine ⟨_, c1, fun r T h => ?_⟩
  rcases h with ⟨hp, rfl, rfl⟩ | ⟨hp, rfl, hXT, fr⟩
  · refine ⟨x0, rfl, g0 hM, _, c2 T hM, fun r2 U h2 => ?_⟩
    rcases h2 with ⟨-, rfl, rfl⟩ | ⟨hp2, -⟩
    · exact ⟨rfl, f, f1, f2, b0, b1, n, H, tx, L, hX, hM, ok, h6⟩
    · exact absurd hp2 hp
  · have hMT := MS_frX (XS_pad hX).1 h6 hM fr
    refine ⟨x1, rfl, g0 hMT, _, c2 T hMT, fun r2 U h2 => ?_⟩
    rcases h2 with ⟨hp2, -⟩ | ⟨-, rfl, hMU, frU⟩
    · exact absurd hp hp2
    · exact ⟨rfl, f', f1', f2', b0', b1', n', H', tx', L', XS_frM hXT h6 hMT frU, hMU, ok' hp, h6⟩
theorem pr_KOM {P : Prop} {x0 x1 : Int} (hX : XS (RB A B) S A f f1 f2 b0 b1 n H tx L) (hM : MS S B f f1 f2 b0 b1 n H tx L) (h6 : A 6 ≠ B 6) (ok : okX f f1 f2 b0 b1 n H) (ok' : P → okX f' f1' f2' b0' b1' n' H')
    (c1 : Ct y1 cc1 nL1 (some .int) d1 mc ms (.ref (A 0) :: as) S (KOR P x0 x1 S (fun T => XS (RB A B) T A f' f1' f2' b0' b1' n' H' tx' L' ∧ frX S T (A 6))))
    (c2 : ∀ T, MS T B f f1 f2 b0 b1 n H tx L → Ct y2 cc2 nL2 (some .int) d2 0 0 (.ref (B 0) :: as) T (KOM P x0 x1 (fun U => MS U B f f1 f2 b0 b1 n H tx L ∧ frM T U B) (fun U => MS U B f' f1' f2' b0' b1' n' H' tx' L' ∧ frM T U B))) : PR A B S y1 cc1 nL1 d1 mc ms y2 cc2 nL2 d2 as := by
  have g0 : ∀ {T}, MS T B f f1 f2 b0 b1 n H tx L → ∃ fs, T (B 0) = some (oO 10 fs) := fun hMT => by
    obtain ⟨hs, sl, sv, ti, to, ik, kr, ks, sp, nu, rd, W, -⟩ := hMT
    exact ⟨_, W.1⟩
  refine ⟨_, c1, fun r T h => ?_⟩
  rcases h with ⟨hp, rfl, rfl⟩ | ⟨hp, rfl, hXT, fr⟩
  · refine ⟨x0, rfl, g0 hM, _, c2 T hM, fun r2 U h2 => ?_⟩
    rcases h2 with ⟨-, rfl, hMU, frU⟩ | ⟨hp2, -⟩
    · exact ⟨rfl, f, f1, f2, b0, b1, n, H, tx, L, XS_frM hX h6 hM frU, hMU, ok, h6⟩
    · exact absurd hp2 hp
  · have hMT := MS_frX (XS_pad hX).1 h6 hM fr
    refine ⟨x1, rfl, g0 hMT, _, c2 T hMT, fun r2 U h2 => ?_⟩
    rcases h2 with ⟨hp2, -⟩ | ⟨-, rfl, hMU, frU⟩
    · exact absurd hp hp2
    · exact ⟨rfl, f', f1', f2', b0', b1', n', H', tx', L', XS_frM hXT h6 hMT frU, hMU, ok' hp, h6⟩
theorem pr_I {z : Int} (hX : XS (RB A B) S A f f1 f2 b0 b1 n H tx L) (hM : MS S B f f1 f2 b0 b1 n H tx L) (h6 : A 6 ≠ B 6) (ok : okX f f1 f2 b0 b1 n H)
    (c1 : Ct y1 cc1 nL1 (some .int) d1 mc ms (.ref (A 0) :: as) S (kI z S)) (c2 : Ct y2 cc2 nL2 (some .int) d2 0 0 (.ref (B 0) :: as) S (kI z S)) : PR A B S y1 cc1 nL1 d1 mc ms y2 cc2 nL2 d2 as := by
  have g0 : ∃ fs, S (B 0) = some (oO 10 fs) := by
    obtain ⟨hs, sl, sv, ti, to, ik, kr, ks, sp, nu, rd, W, -⟩ := hM
    exact ⟨_, W.1⟩
  refine ⟨_, c1, fun r T h => ?_⟩
  obtain ⟨rfl, rfl⟩ := h
  refine ⟨z, rfl, g0, _, c2, fun r2 U h2 => ?_⟩
  obtain ⟨rfl, rfl⟩ := h2
  exact ⟨rfl, f, f1, f2, b0, b1, n, H, tx, L, hX, hM, ok, h6⟩
end PRR
