/-! 29.lrows: rows of the law: the script beside the pool; cell -/
/-- as Jd; the script of nS numbers xs lies at bS, outside the pool -/
def JdL (bS nS : Nat) (xs : Nat → Int32) (y : MethodName) (cc : ByteArray) (nL : Nat) (rt : Option FieldType) (d tc ts : Nat) (K : Option Value → pS → Prop) (c0 s0 : Nat) (S : pS) (pc : Nat) (L : List (Option Value)) (st : List Value) : Prop :=
  ∀ (p : Program) (l : Launch) (e : Env) (R : Room) (s : State) (m : MethodId) (args : Array Value) (below : List Frame) (meth : Method) (c : Code) (D : va_G) (q : qC) (A : Nat → Prop) (Q : State → Prop),
    Cx p R s m args meth c D q A y cc nL rt d tc ts → (va_X bS nS xs s s.heap ∧ bS < s.heap.size ∧ ¬ A bS) →
    (∀ (r : Option Value) (S' : pS), K r S' → RetW p l e R s m args below meth c D q A Q cc rt tc ts r S') →
    ∀ (H : Heap) (locs : List Loc) (ls : Array Slot), pH D q A S H → va_S A s.heap H locs → lvL ls nL L → W p l e R s m args below meth c H locs c0 s0 Q (F0 m pc ls st)
section JRL
variable {bS nS : Nat} {xs : Nat → Int32} {y : MethodName} {cc : ByteArray} {nL : Nat} {rt : Option FieldType} {d tc ts : Nat} {K : Option Value → pS → Prop} {c0 s0 : Nat} {S : pS} {pc : Nat} {L : List (Option Value)} {st : List Value}
theorem JL_iload_n {pc1 : Nat} {j : Fin 4} {i : Nat} {x : Int32} (hi : (j : Nat) = i) (hL : L[i]? = some (some (.int x))) (hd : decode cc pc = .ok (.iload_n j, 1)) (hp : pc + 1 = pc1) (k : JdL bS nS xs y cc nL rt d tc ts K c0 s0 S pc1 L (.int x :: st)) : JdL bS nS xs y cc nL rt d tc ts K c0 s0 S pc L st := by
  intro p l e R s m args below meth c D q A Q C hXs hR H locs ls hP hS hl
  have C0 := C
  obtain ⟨hx, hb, hml, hown, hts, hrt, hlk, hini, hKK, hA, hdf, hdl, htc, hts2⟩ := C
  have hK := hKK.1
  subst hp
  exact lv_iload_n hx hb hd hi (hl.2.2 i _ hL) (k p l e R s m args below meth c D q A Q C0 hXs hR H locs ls hP hS hl)
theorem JL_iload {pc1 : Nat} {i : Nat} {x : Int32} (hL : L[i]? = some (some (.int x))) (hd : decode cc pc = .ok (.iload i, 2)) (hp : pc + 2 = pc1) (k : JdL bS nS xs y cc nL rt d tc ts K c0 s0 S pc1 L (.int x :: st)) : JdL bS nS xs y cc nL rt d tc ts K c0 s0 S pc L st := by
  intro p l e R s m args below meth c D q A Q C hXs hR H locs ls hP hS hl
  have C0 := C
  obtain ⟨hx, hb, hml, hown, hts, hrt, hlk, hini, hKK, hA, hdf, hdl, htc, hts2⟩ := C
  have hK := hKK.1
  subst hp
  exact lv_iload hx hb hd (hl.2.2 i _ hL) (k p l e R s m args below meth c D q A Q C0 hXs hR H locs ls hP hS hl)
theorem JL_aload_n {pc1 : Nat} {j : Fin 4} {i : Nat} {x : Nat} (hi : (j : Nat) = i) (hL : L[i]? = some (some (.ref x))) (hd : decode cc pc = .ok (.aload_n j, 1)) (hp : pc + 1 = pc1) (k : JdL bS nS xs y cc nL rt d tc ts K c0 s0 S pc1 L (.ref x :: st)) : JdL bS nS xs y cc nL rt d tc ts K c0 s0 S pc L st := by
  intro p l e R s m args below meth c D q A Q C hXs hR H locs ls hP hS hl
  have C0 := C
  obtain ⟨hx, hb, hml, hown, hts, hrt, hlk, hini, hKK, hA, hdf, hdl, htc, hts2⟩ := C
  have hK := hKK.1
  subst hp
  exact lv_aload_n hx hb hd hi (hl.2.2 i _ hL) (k p l e R s m args below meth c D q A Q C0 hXs hR H locs ls hP hS hl)
theorem JL_istore_n {pc1 : Nat} {j : Fin 4} {i : Nat} {x : Int32} (hi : (j : Nat) = i) (hd : decode cc pc = .ok (.istore_n j, 1)) (hp : pc + 1 = pc1) (hn : i < nL) (hc : noL L i = true) {L1 : List (Option Value)} (hk1 : (L.set i (some (.int x))) = L1) (k : JdL bS nS xs y cc nL rt d tc ts K c0 s0 S pc1 L1 st) : JdL bS nS xs y cc nL rt d tc ts K c0 s0 S pc L ((.int x) :: st) := by
  intro p l e R s m args below meth c D q A Q C hXs hR H locs ls hP hS hl
  have C0 := C
  obtain ⟨hx, hb, hml, hown, hts, hrt, hlk, hini, hKK, hA, hdf, hdl, htc, hts2⟩ := C
  have hK := hKK.1
  subst hp
  refine lv_istore_n (lv := lvp L) hx hb hd hi hl.has hn rfl (fun ls1 h1 => ?_)
  subst hk1
  exact k p l e R s m args below meth c D q A Q C0 hXs hR H locs ls1 hP hS (lvL.set1 hc h1)
theorem JL_istore {pc1 : Nat} {i : Nat} {x : Int32} (hd : decode cc pc = .ok (.istore i, 2)) (hp : pc + 2 = pc1) (hn : i < nL) (hc : noL L i = true) {L1 : List (Option Value)} (hk1 : (L.set i (some (.int x))) = L1) (k : JdL bS nS xs y cc nL rt d tc ts K c0 s0 S pc1 L1 st) : JdL bS nS xs y cc nL rt d tc ts K c0 s0 S pc L ((.int x) :: st) := by
  intro p l e R s m args below meth c D q A Q C hXs hR H locs ls hP hS hl
  have C0 := C
  obtain ⟨hx, hb, hml, hown, hts, hrt, hlk, hini, hKK, hA, hdf, hdl, htc, hts2⟩ := C
  have hK := hKK.1
  subst hp
  refine lv_istore (lv := lvp L) hx hb hd  hl.has hn rfl (fun ls1 h1 => ?_)
  subst hk1
  exact k p l e R s m args below meth c D q A Q C0 hXs hR H locs ls1 hP hS (lvL.set1 hc h1)
theorem JL_astore_n {pc1 : Nat} {j : Fin 4} {i : Nat} {x : Nat} (hi : (j : Nat) = i) (hd : decode cc pc = .ok (.astore_n j, 1)) (hp : pc + 1 = pc1) (hn : i < nL) (hc : noL L i = true) {L1 : List (Option Value)} (hk1 : (L.set i (some (.ref x))) = L1) (k : JdL bS nS xs y cc nL rt d tc ts K c0 s0 S pc1 L1 st) : JdL bS nS xs y cc nL rt d tc ts K c0 s0 S pc L ((.ref x) :: st) := by
  intro p l e R s m args below meth c D q A Q C hXs hR H locs ls hP hS hl
  have C0 := C
  obtain ⟨hx, hb, hml, hown, hts, hrt, hlk, hini, hKK, hA, hdf, hdl, htc, hts2⟩ := C
  have hK := hKK.1
  subst hp
  refine lv_astore_n (lv := lvp L) hx hb hd hi hl.has hn rfl (fun ls1 h1 => ?_)
  subst hk1
  exact k p l e R s m args below meth c D q A Q C0 hXs hR H locs ls1 hP hS (lvL.set1 hc h1)
theorem JL_iconst {pc1 : Nat} {n : Int} (hd : decode cc pc = .ok (.iconst n, 1)) (hp : pc + 1 = pc1) (k : JdL bS nS xs y cc nL rt d tc ts K c0 s0 S pc1 L (.int (iI n) :: st)) : JdL bS nS xs y cc nL rt d tc ts K c0 s0 S pc L st := by
  intro p l e R s m args below meth c D q A Q C hXs hR H locs ls hP hS hl
  have C0 := C
  obtain ⟨hx, hb, hml, hown, hts, hrt, hlk, hini, hKK, hA, hdf, hdl, htc, hts2⟩ := C
  have hK := hKK.1
  subst hp
  exact lv_iconst hx hb hd rfl (k p l e R s m args below meth c D q A Q C0 hXs hR H locs ls hP hS hl)
theorem JL_bipush {pc1 : Nat} {n : Int} (hv : (Int8.ofInt n).toInt32 = iI n) (hd : decode cc pc = .ok (.bipush n, 2)) (hp : pc + 2 = pc1) (k : JdL bS nS xs y cc nL rt d tc ts K c0 s0 S pc1 L (.int (iI n) :: st)) : JdL bS nS xs y cc nL rt d tc ts K c0 s0 S pc L st := by
  intro p l e R s m args below meth c D q A Q C hXs hR H locs ls hP hS hl
  have C0 := C
  obtain ⟨hx, hb, hml, hown, hts, hrt, hlk, hini, hKK, hA, hdf, hdl, htc, hts2⟩ := C
  have hK := hKK.1
  subst hp
  exact lv_bipush hx hb hd hv (k p l e R s m args below meth c D q A Q C0 hXs hR H locs ls hP hS hl)
theorem JL_sipush {pc1 : Nat} {n : Int} (hv : (Int16.ofInt n).toInt32 = iI n) (hd : decode cc pc = .ok (.sipush n, 3)) (hp : pc + 3 = pc1) (k : JdL bS nS xs y cc nL rt d tc ts K c0 s0 S pc1 L (.int (iI n) :: st)) : JdL bS nS xs y cc nL rt d tc ts K c0 s0 S pc L st := by
  intro p l e R s m args below meth c D q A Q C hXs hR H locs ls hP hS hl
  have C0 := C
  obtain ⟨hx, hb, hml, hown, hts, hrt, hlk, hini, hKK, hA, hdf, hdl, htc, hts2⟩ := C
  have hK := hKK.1
  subst hp
  exact lv_sipush hx hb hd hv (k p l e R s m args below meth c D q A Q C0 hXs hR H locs ls hP hS hl)
theorem JL_iadd {pc1 : Nat} {a b : Int} (hd : decode cc pc = .ok (.iadd, 1)) (hp : pc + 1 = pc1) (k : JdL bS nS xs y cc nL rt d tc ts K c0 s0 S pc1 L (.int (iI (a + b)) :: st)) : JdL bS nS xs y cc nL rt d tc ts K c0 s0 S pc L (.int (iI b) :: .int (iI a) :: st) := by
  intro p l e R s m args below meth c D q A Q C hXs hR H locs ls hP hS hl
  have C0 := C
  obtain ⟨hx, hb, hml, hown, hts, hrt, hlk, hini, hKK, hA, hdf, hdl, htc, hts2⟩ := C
  have hK := hKK.1
  subst hp
  refine lv_iadd hx hb hd ?_
  rw [iI_add]
  exact k p l e R s m args below meth c D q A Q C0 hXs hR H locs ls hP hS hl
theorem JL_imul {pc1 : Nat} {a b : Int} (hd : decode cc pc = .ok (.imul, 1)) (hp : pc + 1 = pc1) (k : JdL bS nS xs y cc nL rt d tc ts K c0 s0 S pc1 L (.int (iI (a * b)) :: st)) : JdL bS nS xs y cc nL rt d tc ts K c0 s0 S pc L (.int (iI b) :: .int (iI a) :: st) := by
  intro p l e R s m args below meth c D q A Q C hXs hR H locs ls hP hS hl
  have C0 := C
  obtain ⟨hx, hb, hml, hown, hts, hrt, hlk, hini, hKK, hA, hdf, hdl, htc, hts2⟩ := C
  have hK := hKK.1
  subst hp
  refine lv_imul hx hb hd ?_
  rw [iI_mul]
  exact k p l e R s m args below meth c D q A Q C0 hXs hR H locs ls hP hS hl
theorem JL_irem {pc1 : Nat} {a b : Int} (a1 : 0 ≤ a) (a2 : a < 2147483648) (b1 : 0 < b) (b2 : b < 2147483648) (hd : decode cc pc = .ok (.irem, 1)) (hp : pc + 1 = pc1) (k : JdL bS nS xs y cc nL rt d tc ts K c0 s0 S pc1 L (.int (iI (a % b)) :: st)) : JdL bS nS xs y cc nL rt d tc ts K c0 s0 S pc L (.int (iI b) :: .int (iI a) :: st) := by
  intro p l e R s m args below meth c D q A Q C hXs hR H locs ls hP hS hl
  have C0 := C
  obtain ⟨hx, hb, hml, hown, hts, hrt, hlk, hini, hKK, hA, hdf, hdl, htc, hts2⟩ := C
  have hK := hKK.1
  subst hp
  refine lv_irem hx hb hd (fun h0 => ?_) ?_
  · have := (iI_inj (a := b) (b := 0) (by omega) b2 (by omega) (by omega)).mp h0
    omega
  · rw [iI_div a1 a2 b1 b2, iI_mul, iI_sub, show a - a / b * b = a % b by rw [Int.emod_def, Int.mul_comm]]
    exact k p l e R s m args below meth c D q A Q C0 hXs hR H locs ls hP hS hl
theorem JL_if_eq {off : Int} {tgt pc1 : Nat} {a : Int} (a1 : -2147483648 ≤ a) (a2 : a < 2147483648) (hd : decode cc pc = .ok (.ifCond .eq off, 3)) (ht : (pc : Int) + off = (tgt : Int)) (hp : pc + 3 = pc1) (kt : a = 0 → JdL bS nS xs y cc nL rt d tc ts K c0 s0 S tgt L st) (kf : ¬ a = 0 → JdL bS nS xs y cc nL rt d tc ts K c0 s0 S pc1 L st) : JdL bS nS xs y cc nL rt d tc ts K c0 s0 S pc L (.int (iI a) :: st) := by
  intro p l e R s m args below meth c D q A Q C hXs hR H locs ls hP hS hl
  have C0 := C
  obtain ⟨hx, hb, hml, hown, hts, hrt, hlk, hini, hKK, hA, hdf, hdl, htc, hts2⟩ := C
  have hK := hKK.1
  subst hp
  exact lv_if_eq hx hb hd ht (fun h9 => kt ((iI_inj (a := a) (b := 0) a1 a2 (by omega) (by omega)).mp h9) p l e R s m args below meth c D q A Q C0 hXs hR H locs ls hP hS hl) (fun h9 => kf (fun z => h9 ((iI_inj (a := a) (b := 0) a1 a2 (by omega) (by omega)).mpr z)) p l e R s m args below meth c D q A Q C0 hXs hR H locs ls hP hS hl)
theorem JL_if_gt {off : Int} {tgt pc1 : Nat} {a : Int} (a1 : -2147483648 ≤ a) (a2 : a < 2147483648) (hd : decode cc pc = .ok (.ifCond .gt off, 3)) (ht : (pc : Int) + off = (tgt : Int)) (hp : pc + 3 = pc1) (kt : 0 < a → JdL bS nS xs y cc nL rt d tc ts K c0 s0 S tgt L st) (kf : ¬ 0 < a → JdL bS nS xs y cc nL rt d tc ts K c0 s0 S pc1 L st) : JdL bS nS xs y cc nL rt d tc ts K c0 s0 S pc L (.int (iI a) :: st) := by
  intro p l e R s m args below meth c D q A Q C hXs hR H locs ls hP hS hl
  have C0 := C
  obtain ⟨hx, hb, hml, hown, hts, hrt, hlk, hini, hKK, hA, hdf, hdl, htc, hts2⟩ := C
  have hK := hKK.1
  subst hp
  exact lv_if_gt hx hb hd ht (fun h9 => kt ((iI_lt (a := 0) (b := a) (by omega) (by omega) a1 a2).mp h9) p l e R s m args below meth c D q A Q C0 hXs hR H locs ls hP hS hl) (fun h9 => kf (fun z => h9 ((iI_lt (a := 0) (b := a) (by omega) (by omega) a1 a2).mpr z)) p l e R s m args below meth c D q A Q C0 hXs hR H locs ls hP hS hl)
theorem JL_icmp_ge {off : Int} {tgt pc1 : Nat} {a b : Int} (a1 : -2147483648 ≤ a) (a2 : a < 2147483648) (b1 : -2147483648 ≤ b) (b2 : b < 2147483648) (hd : decode cc pc = .ok (.if_icmp .ge off, 3)) (ht : (pc : Int) + off = (tgt : Int)) (hp : pc + 3 = pc1) (kt : b ≤ a → JdL bS nS xs y cc nL rt d tc ts K c0 s0 S tgt L st) (kf : ¬ b ≤ a → JdL bS nS xs y cc nL rt d tc ts K c0 s0 S pc1 L st) : JdL bS nS xs y cc nL rt d tc ts K c0 s0 S pc L (.int (iI b) :: .int (iI a) :: st) := by
  intro p l e R s m args below meth c D q A Q C hXs hR H locs ls hP hS hl
  have C0 := C
  obtain ⟨hx, hb, hml, hown, hts, hrt, hlk, hini, hKK, hA, hdf, hdl, htc, hts2⟩ := C
  have hK := hKK.1
  subst hp
  exact lv_icmp_ge hx hb hd ht (fun h9 => kt ((iI_le (a := b) (b := a) b1 b2 a1 a2).mp h9) p l e R s m args below meth c D q A Q C0 hXs hR H locs ls hP hS hl) (fun h9 => kf (fun z => h9 ((iI_le (a := b) (b := a) b1 b2 a1 a2).mpr z)) p l e R s m args below meth c D q A Q C0 hXs hR H locs ls hP hS hl)
theorem JL_icmp_gt {off : Int} {tgt pc1 : Nat} {a b : Int} (a1 : -2147483648 ≤ a) (a2 : a < 2147483648) (b1 : -2147483648 ≤ b) (b2 : b < 2147483648) (hd : decode cc pc = .ok (.if_icmp .gt off, 3)) (ht : (pc : Int) + off = (tgt : Int)) (hp : pc + 3 = pc1) (kt : b < a → JdL bS nS xs y cc nL rt d tc ts K c0 s0 S tgt L st) (kf : ¬ b < a → JdL bS nS xs y cc nL rt d tc ts K c0 s0 S pc1 L st) : JdL bS nS xs y cc nL rt d tc ts K c0 s0 S pc L (.int (iI b) :: .int (iI a) :: st) := by
  intro p l e R s m args below meth c D q A Q C hXs hR H locs ls hP hS hl
  have C0 := C
  obtain ⟨hx, hb, hml, hown, hts, hrt, hlk, hini, hKK, hA, hdf, hdl, htc, hts2⟩ := C
  have hK := hKK.1
  subst hp
  exact lv_icmp_gt hx hb hd ht (fun h9 => kt ((iI_lt (a := b) (b := a) b1 b2 a1 a2).mp h9) p l e R s m args below meth c D q A Q C0 hXs hR H locs ls hP hS hl) (fun h9 => kf (fun z => h9 ((iI_lt (a := b) (b := a) b1 b2 a1 a2).mpr z)) p l e R s m args below meth c D q A Q C0 hXs hR H locs ls hP hS hl)
theorem JL_goto {off : Int} {tgt : Nat} (hd : decode cc pc = .ok (.goto off, 3)) (ht : (pc : Int) + off = (tgt : Int)) (k : JdL bS nS xs y cc nL rt d tc ts K c0 s0 S tgt L st) : JdL bS nS xs y cc nL rt d tc ts K c0 s0 S pc L st := by
  intro p l e R s m args below meth c D q A Q C hXs hR H locs ls hP hS hl
  have C0 := C
  obtain ⟨hx, hb, hml, hown, hts, hrt, hlk, hini, hKK, hA, hdf, hdl, htc, hts2⟩ := C
  have hK := hKK.1
  exact lv_goto hx hb hd ht (k p l e R s m args below meth c D q A Q C0 hXs hR H locs ls hP hS hl)
theorem JL_iinc {pc1 i : Nat} {n a : Int} (hd : decode cc pc = .ok (.iinc i n, 3)) (hp : pc + 3 = pc1) (hL : L[i]? = some (some (.int (iI a)))) (hn : i < nL) (hc : noL L i = true) {L1 : List (Option Value)} (hk1 : L.set i (some (.int (iI (a + n)))) = L1) (k : JdL bS nS xs y cc nL rt d tc ts K c0 s0 S pc1 L1 st) : JdL bS nS xs y cc nL rt d tc ts K c0 s0 S pc L st := by
  intro p l e R s m args below meth c D q A Q C hXs hR H locs ls hP hS hl
  have C0 := C
  obtain ⟨hx, hb, hml, hown, hts, hrt, hlk, hini, hKK, hA, hdf, hdl, htc, hts2⟩ := C
  have hK := hKK.1
  subst hp
  subst hk1
  obtain ⟨kk, hkk⟩ := List.getElem?_of_mem (lvp_mem.mpr hL)
  exact lv_iinc (lv := lvp L) (v := iI (a + n)) hx hb hd hl.has hkk (iI_add a n) hn rfl (fun ls1 h1 => k p l e R s m args below meth c D q A Q C0 hXs hR H locs ls1 hP hS (lvL.set1 hc h1))
theorem JL_iret {v : Int32} {ty : FieldType} (hrr : rt = some ty) (hnv : narrow ty (.int v) = .int v) (hd : decode cc pc = .ok (.ireturn, 1)) (hc1 : c0 ≤ tc) (hs1 : s0 ≤ ts) (hk : K (some (.int v)) S)  : JdL bS nS xs y cc nL rt d tc ts K c0 s0 S pc L [.int v] := by
  intro p l e R s m args below meth c D q A Q C hXs hR H locs ls hP hS hl
  have C0 := C
  obtain ⟨hx, hb, hml, hown, hts, hrt, hlk, hini, hKK, hA, hdf, hdl, htc, hts2⟩ := C
  have hK := hKK.1
  exact W.widen hc1 hs1 (hR _ S hk H locs ls pc _ (Or.inr (Or.inl ⟨rfl, ty, v, hrr, rfl, hnv⟩)) hd hP hS)
theorem JL_new {pc1 ci ix N : Nat} {C : String} {T : u_T} {fs : List Value} (hin : ∀ w ∈ u_ws C T N, w ∈ wsU) (hc : vwCl[ci]? = some (C, T, N)) (ty0 : Nat → FieldType) (hty : ∀ k, k < N → parseFieldDescriptor (T k).2.2.1 = some (ty0 k)) (hw : Cond.classLink y.cls ix C ∈ wsU) (hw2 : Cond.instantiable C N ∈ wsU) (hw3 : Cond.initialized C ∈ wsU) (hfs : ∀ j, j < N → defaultValue (ty0 j) = vp_V fs j) (hd : decode cc pc = .ok (.new ix, 3)) (hp : pc + 3 = pc1) (hc1 : c0 + 1 ≤ tc) (hs1 : s0 + N ≤ ts) (k : ∀ a : Nat, S a = none → JdL bS nS xs y cc nL rt d tc ts K (c0 + 1) (s0 + N) (pu S a (oO ci fs)) pc1 L (.ref a :: st)) : JdL bS nS xs y cc nL rt d tc ts K c0 s0 S pc L st := by
  intro p l e R s m args below meth c D q A Q C hXs hR H locs ls hP hS hl
  have C0 := C
  obtain ⟨hx, hb, hml, hown, hts, hrt, hlk, hini, hKK, hA, hdf, hdl, htc, hts2⟩ := C
  have hK := hKK.1
  subst hp
  obtain ⟨L1, f1, h1, h2, g1, g2⟩ := hP
  refine va_new hx hb hts hin ty0 hty hown (hts _ hw) (hts _ hw2) (hts _ hw3) hK g1 g2 hS hA hc hfs (Nat.le_trans hc1 htc) (Nat.le_trans hs1 hts2) hd (fun a H1 p1 p2 p3 => ?_)
  obtain ⟨n1, n2⟩ := pH.new (e := oO ci fs) h1 h2 p1 p2
  exact k a n1 p l e R s m args below meth c D q A Q C0 hXs hR H1 locs ls n2 p3 hl
theorem JL_callV {y1 : MethodName} {cc1 : ByteArray} {nL1 : Nat} {rt1 : Option FieldType} {d1 mc ms n : Nat} {As : List Value} {K1 : Option Value → pS → Prop} {pc1 ix b ci N : Nat} {C : String} {T9 : u_T} {fs : List Value} {stk : List Value} (hG : GoodIn wsU (wsV y.cls ix C y1 (.code y1 cc1 nL1 rt1 :: wsU))) (hy : y1.cls = C ∧ y1.cls ≠ "java/lang/invoke/MethodHandle" ∧ y1.cls ≠ "java/lang/invoke/VarHandle" ∧ (parseMethodDescriptor y1.desc).map (fun d => d.parameters.length) = some n) (hc : vwCl[ci]? = some (C, T9, N)) (hM : Ct y1 cc1 nL1 rt1 d1 mc ms (.ref b :: As) S K1) (hd : decode cc pc = .ok (.invokevirtual ix, 3)) (hp : pc + 3 = pc1) (ha : S b = some (oO ci fs)) (hst : stk = As.reverse ++ .ref b :: st) (hn : As.length = n) (hdd : d1 + 1 ≤ d) (hnl : nL1 ≤ 21) (hcc : c0 + mc ≤ tc) (hss : s0 + ms ≤ ts) (hrm : (st.map fun v => v.category).sum ≤ 8) (k : ∀ (r : Option Value) (S1 : pS), K1 r S1 → JdL bS nS xs y cc nL rt d tc ts K (c0 + mc) (s0 + ms) S1 pc1 L (r.toList ++ st)) : JdL bS nS xs y cc nL rt d tc ts K c0 s0 S pc L stk := by
  intro p l e R s m args below meth c D q A Q C hXs hR H locs ls hP hS hl
  have C0 := C
  obtain ⟨hx, hb, hml, hown, hts, hrt, hlk, hini, hKK, hA, hdf, hdl, htc, hts2⟩ := C
  have hK := hKK.1
  obtain ⟨L1, f9, k1, g1, g2, g3, -⟩ := hP.at ha
  subst hp
  subst hst
  have hrun := va_runV (H := H) (locs := locs) (cells := c0) (slots := s0) (e := e) (meth := meth) (below := below) (g := F0 m pc ls (As.reverse ++ .ref b :: st)) (rest := st) (As := As) (b := b) ⟨hx, hb, hml, hown, hts⟩ (hM d1 (Nat.le_refl _) l D q H.size) (cwV (R := R) n hts hG rfl rfl rfl hy ⟨by show d1 + 1 ≤ _; omega, by show 8 + (nL1 + 11) + 40 * d1 ≤ _; omega⟩) ⟨fun a U g mk z => by obtain ⟨q0, q1, q2, q3⟩ := z; exact ⟨q0, q1, q2, KK.same (u := U) (U := U.calling g mk a) rfl q3⟩, va_recv hK g1 hc g3, fun U hU hW => ⟨rfl, by rw [hU], by rw [hU]; exact hP.weaken (fun _ _ _ _ => trivial), KK.warm hW hKK⟩⟩ rfl hn (hl.1) rfl (lv_room hrm) hd ⟨Nat.le_trans hcc htc, Nat.le_trans hss hts2⟩
  intro T hT X
  obtain ⟨v, st₀, t, T1, L9, e0, X1, hL9, e1, e2, ⟨⟨r, S1, hoc, hKr, hP1⟩, hF⟩, hgo⟩ := hrun T hT X
  cases hoc
  have hA1 : ∀ x : Nat, aS S H.size x → A x := fun x hx9 => hx9.elim (fun ⟨e9, he9⟩ => hP.inA he9) (fun h9 => hA x (Nat.le_trans hS.1 h9))
  rw [← e1] at hP1
  obtain ⟨f1, f2⟩ := hF
  rw [e0, ← e1] at f1 f2
  have hS1 : va_S A s.heap T1.heap (locs ++ L9) := ⟨Nat.le_trans hS.1 f1, fun x h1 h2 => (f2 x (Nat.lt_of_lt_of_le h1 hS.1) (fun z => h2 (hA1 x z))).trans (hS.2.1 x h1 h2), fun x hx9 => (List.mem_append.mp hx9).elim (hS.2.2 x) (fun z => hA1 _ (hL9 x z))⟩
  obtain ⟨t2, a1, b1⟩ := k v S1 hKr p l e R s m args below meth c D q A Q C0 hXs hR T1.heap (locs ++ L9) ls (hP1.weaken (fun x e9 _ z => hA1 x z)) hS1 hl T1 rfl X1
  exact ⟨t2, hgo t2 a1, b1⟩
theorem JL_callS {y1 : MethodName} {cc1 : ByteArray} {nL1 : Nat} {rt1 : Option FieldType} {d1 mc ms n : Nat} {As : List Value} {K1 : Option Value → pS → Prop} {pc1 ix : Nat} {stk : List Value} (hG : GoodIn wsU (wsS y.cls ix y1 (.code y1 cc1 nL1 rt1 :: wsU))) (hy : y1.cls = y.cls ∧ y1.cls ≠ "java/lang/invoke/MethodHandle" ∧ y1.cls ≠ "java/lang/invoke/VarHandle" ∧ (parseMethodDescriptor y1.desc).map (fun d => d.parameters.length) = some n) (hM : Ct y1 cc1 nL1 rt1 d1 mc ms As S K1) (hd : decode cc pc = .ok (.invokestatic ix, 3)) (hp : pc + 3 = pc1) (hst : stk = As.reverse ++ st) (hn : As.length = n) (hdd : d1 + 1 ≤ d) (hnl : nL1 ≤ 21) (hcc : c0 + mc ≤ tc) (hss : s0 + ms ≤ ts) (hrm : (st.map fun v => v.category).sum ≤ 8) (k : ∀ (r : Option Value) (S1 : pS), K1 r S1 → JdL bS nS xs y cc nL rt d tc ts K (c0 + mc) (s0 + ms) S1 pc1 L (r.toList ++ st)) : JdL bS nS xs y cc nL rt d tc ts K c0 s0 S pc L stk := by
  intro p l e R s m args below meth c D q A Q C hXs hR H locs ls hP hS hl
  have C0 := C
  obtain ⟨hx, hb, hml, hown, hts, hrt, hlk, hini, hKK, hA, hdf, hdl, htc, hts2⟩ := C
  have hK := hKK.1
  subst hp
  subst hst
  have hrun := va_runS (H := H) (locs := locs) (cells := c0) (slots := s0) (e := e) (meth := meth) (below := below) (g := F0 m pc ls (As.reverse ++ st)) (rest := st) (As := As) ⟨hx, hb, hml, hown, hts⟩ (hM d1 (Nat.le_refl _) l D q H.size) (cwS (R := R) n hts hG rfl rfl rfl hy ⟨by show d1 + 1 ≤ _; omega, by show 8 + (nL1 + 11) + 40 * d1 ≤ _; omega⟩) ⟨fun a U g mk z => by obtain ⟨q0, q1, q2, q3⟩ := z; exact ⟨q0, q1, q2, KK.same (u := U) (U := U.calling g mk a) rfl q3⟩, fun U hU hW => ⟨rfl, by rw [hU], by rw [hU]; exact hP.weaken (fun _ _ _ _ => trivial), KK.warm hW hKK⟩⟩ rfl hn (hl.1) rfl (lv_room hrm) hd ⟨Nat.le_trans hcc htc, Nat.le_trans hss hts2⟩
  intro T hT X
  obtain ⟨v, st₀, t, T1, L9, e0, X1, hL9, e1, e2, ⟨⟨r, S1, hoc, hKr, hP1⟩, hF⟩, hgo⟩ := hrun T hT X
  cases hoc
  have hA1 : ∀ x : Nat, aS S H.size x → A x := fun x hx9 => hx9.elim (fun ⟨e9, he9⟩ => hP.inA he9) (fun h9 => hA x (Nat.le_trans hS.1 h9))
  rw [← e1] at hP1
  obtain ⟨f1, f2⟩ := hF
  rw [e0, ← e1] at f1 f2
  have hS1 : va_S A s.heap T1.heap (locs ++ L9) := ⟨Nat.le_trans hS.1 f1, fun x h1 h2 => (f2 x (Nat.lt_of_lt_of_le h1 hS.1) (fun z => h2 (hA1 x z))).trans (hS.2.1 x h1 h2), fun x hx9 => (List.mem_append.mp hx9).elim (hS.2.2 x) (fun z => hA1 _ (hL9 x z))⟩
  obtain ⟨t2, a1, b1⟩ := k v S1 hKr p l e R s m args below meth c D q A Q C0 hXs hR T1.heap (locs ++ L9) ls (hP1.weaken (fun x e9 _ z => hA1 x z)) hS1 hl T1 rfl X1
  exact ⟨t2, hgo t2 a1, b1⟩
theorem JL_callI {y1 : MethodName} {cc1 : ByteArray} {nL1 : Nat} {d1 mc ms n : Nat} {As : List Value} {K1 : Option Value → pS → Prop} {pc1 ix b : Nat} {stk : List Value} (hG : GoodIn wsU (.code y1 cc1 nL1 none :: wsU)) (hy : y1.name = "<init>" ∧ y1.cls ≠ "java/lang/invoke/MethodHandle" ∧ y1.cls ≠ "java/lang/invoke/VarHandle" ∧ (parseMethodDescriptor y1.desc).map (fun d => d.parameters.length) = some n) (hw1 : Cond.initialized y1.cls ∈ wsU) (hw2 : Cond.methodLink y.cls ix y1 ∈ wsU) (hw3 : Cond.instanceMethod y1 ∈ wsU) (hM : Ct y1 cc1 nL1 none d1 mc ms (.ref b :: As) S K1) (hd : decode cc pc = .ok (.invokespecial ix, 3)) (hp : pc + 3 = pc1) (hst : stk = As.reverse ++ .ref b :: st) (hn : As.length = n) (hdd : d1 + 1 ≤ d) (hnl : nL1 ≤ 21) (hcc : c0 + mc ≤ tc) (hss : s0 + ms ≤ ts) (hrm : (st.map fun v => v.category).sum ≤ 8) (k : ∀ (r : Option Value) (S1 : pS), K1 r S1 → JdL bS nS xs y cc nL rt d tc ts K (c0 + mc) (s0 + ms) S1 pc1 L (r.toList ++ st)) : JdL bS nS xs y cc nL rt d tc ts K c0 s0 S pc L stk := by
  intro p l e R s m args below meth c D q A Q C hXs hR H locs ls hP hS hl
  have C0 := C
  obtain ⟨hx, hb, hml, hown, hts, hrt, hlk, hini, hKK, hA, hdf, hdl, htc, hts2⟩ := C
  have hK := hKK.1
  subst hp
  subst hst
  have hrun := va_runI (H := H) (locs := locs) (cells := c0) (slots := s0) (e := e) (meth := meth) (below := below) (g := F0 m pc ls (As.reverse ++ .ref b :: st)) (rest := st) (As := As) (b := b) ⟨hx, hb, hml, hown, hts⟩ (hM d1 (Nat.le_refl _) l D q H.size) (cwI (R := R) n hts hG rfl rfl rfl (hts _ hw1) (hts _ hw2) (hts _ hw3) hy.1 hy.2 ⟨by show d1 + 1 ≤ _; omega, by show 8 + (nL1 + 11) + 40 * d1 ≤ _; omega⟩) ⟨fun a U g mk z => by obtain ⟨q0, q1, q2, q3⟩ := z; exact ⟨q0, q1, q2, KK.same (u := U) (U := U.calling g mk a) rfl q3⟩, fun U hU hW => ⟨rfl, by rw [hU], by rw [hU]; exact hP.weaken (fun _ _ _ _ => trivial), KK.warm hW hKK⟩⟩ rfl hn (hl.1) rfl (lv_room hrm) hd ⟨Nat.le_trans hcc htc, Nat.le_trans hss hts2⟩
  intro T hT X
  obtain ⟨v, st₀, t, T1, L9, e0, X1, hL9, e1, e2, ⟨⟨r, S1, hoc, hKr, hP1⟩, hF⟩, hgo⟩ := hrun T hT X
  cases hoc
  have hA1 : ∀ x : Nat, aS S H.size x → A x := fun x hx9 => hx9.elim (fun ⟨e9, he9⟩ => hP.inA he9) (fun h9 => hA x (Nat.le_trans hS.1 h9))
  rw [← e1] at hP1
  obtain ⟨f1, f2⟩ := hF
  rw [e0, ← e1] at f1 f2
  have hS1 : va_S A s.heap T1.heap (locs ++ L9) := ⟨Nat.le_trans hS.1 f1, fun x h1 h2 => (f2 x (Nat.lt_of_lt_of_le h1 hS.1) (fun z => h2 (hA1 x z))).trans (hS.2.1 x h1 h2), fun x hx9 => (List.mem_append.mp hx9).elim (hS.2.2 x) (fun z => hA1 _ (hL9 x z))⟩
  obtain ⟨t2, a1, b1⟩ := k v S1 hKr p l e R s m args below meth c D q A Q C0 hXs hR T1.heap (locs ++ L9) ls (hP1.weaken (fun x e9 _ z => hA1 x z)) hS1 hl T1 rfl X1
  exact ⟨t2, hgo t2 a1, b1⟩
theorem JL_dup {pc1 : Nat} {v : Value} (hv : v.category = 1) (hd : decode cc pc = .ok (.dup, 1)) (hp : pc + 1 = pc1) (k : JdL bS nS xs y cc nL rt d tc ts K c0 s0 S pc1 L (v :: v :: st)) : JdL bS nS xs y cc nL rt d tc ts K c0 s0 S pc L (v :: st) := by
  intro p l e R s m args below meth c D q A Q C hXs hR H locs ls hP hS hl
  have C0 := C
  obtain ⟨hx, hb, hml, hown, hts, hrt, hlk, hini, hKK, hA, hdf, hdl, htc, hts2⟩ := C
  have hK := hKK.1
  subst hp
  exact lv_dup hx hb hd hv (k p l e R s m args below meth c D q A Q C0 hXs hR H locs ls hP hS hl)
theorem JL_widen {c1 s1 : Nat} (hc1 : c0 ≤ c1) (hs1 : s0 ≤ s1) (k : JdL bS nS xs y cc nL rt d tc ts K c1 s1 S pc L st) : JdL bS nS xs y cc nL rt d tc ts K c0 s0 S pc L st := by
  intro p l e R s m args below meth c D q A Q C hXs hR H locs ls hP hS hl
  have C0 := C
  obtain ⟨hx, hb, hml, hown, hts, hrt, hlk, hini, hKK, hA, hdf, hdl, htc, hts2⟩ := C
  have hK := hKK.1
  exact W.widen hc1 hs1 (k p l e R s m args below meth c D q A Q C0 hXs hR H locs ls hP hS hl)
theorem JL_sld {pc1 : Nat} {z : Int} {v : Int32} (hd : decode cc pc = .ok (.iaload, 1)) (hp : pc + 1 = pc1) (h0 : 0 ≤ z) (h1 : z < nS) (hn : nS < 2147483648) (hv : xs z.toNat = v) (k : JdL bS nS xs y cc nL rt d tc ts K c0 s0 S pc1 L (.int v :: st)) : JdL bS nS xs y cc nL rt d tc ts K c0 s0 S pc L (.int (iI z) :: .ref bS :: st) := by
  intro p l e R s m args below meth c D q A Q C hXs hR H locs ls hP hS hl
  have C0 := C
  obtain ⟨hx, hb, hml, hown, hts, hrt, hlk, hini, hKK, hA, hdf, hdl, htc, hts2⟩ := C
  subst hp
  subst hv
  refine va_sld hx hb hXs.1 hXs.2.1 hXs.2.2 hS (iI_in h0 h1 hn) hd ?_
  rw [iI_cl h0 (by omega)]
  exact k p l e R s m args below meth c D q A Q C0 hXs hR H locs ls hP hS hl
theorem JL_slen {pc1 : Nat} (hd : decode cc pc = .ok (.arraylength, 1)) (hp : pc + 1 = pc1) (k : JdL bS nS xs y cc nL rt d tc ts K c0 s0 S pc1 L (.int (iI (nS : Int)) :: st)) : JdL bS nS xs y cc nL rt d tc ts K c0 s0 S pc L (.ref bS :: st) := by
  intro p l e R s m args below meth c D q A Q C hXs hR H locs ls hP hS hl
  have C0 := C
  obtain ⟨hx, hb, hml, hown, hts, hrt, hlk, hini, hKK, hA, hdf, hdl, htc, hts2⟩ := C
  subst hp
  refine va_slen hx hb hXs.1 hXs.2.1 hXs.2.2 hS hd ?_
  rw [show Int32.ofNat nS = iI (nS : Int) from (Int32.ofInt_eq_ofNat (n := nS)).symm]
  exact k p l e R s m args below meth c D q A Q C0 hXs hR H locs ls hP hS hl
theorem JL_st {st1 : List Value} (h : st = st1) (k : JdL bS nS xs y cc nL rt d tc ts K c0 s0 S pc L st1) : JdL bS nS xs y cc nL rt d tc ts K c0 s0 S pc L st := by rw [h]; exact k
theorem JL_L {L1 : List (Option Value)} (h : L = L1) (k : JdL bS nS xs y cc nL rt d tc ts K c0 s0 S pc L1 st) : JdL bS nS xs y cc nL rt d tc ts K c0 s0 S pc L st := by rw [h]; exact k
theorem JL_S {S1 : pS} (h : S = S1) (k : JdL bS nS xs y cc nL rt d tc ts K c0 s0 S1 pc L st) : JdL bS nS xs y cc nL rt d tc ts K c0 s0 S pc L st := by rw [h]; exact k
theorem JL_w {c1 s1 : Nat} (hc1 : c0 ≤ c1) (hs1 : s0 ≤ s1) (k : JdL bS nS xs y cc nL rt d tc ts K c1 s1 S pc L st) : JdL bS nS xs y cc nL rt d tc ts K c0 s0 S pc L st := JL_widen hc1 hs1 k
variable {y1 : MethodName} {cc1 : ByteArray} {nL1 : Nat} {rt1 : Option FieldType} {d1 mc ms n : Nat} {As : List Value} {pc1 ix b ci N : Nat} {C : String} {T9 : u_T} {fs : List Value} {stk : List Value} {A B : Nat → Nat} {g g2 g' g2' : GS} {tx tx2 tx' tx2' : Int → Int} {l l2 l' l2' : Nat} {z : Int}
theorem JL_ishr {a b : Int32} (hd : decode cc pc = .ok (.ishr, 1)) (hp : pc + 1 = pc1) (k : JdL bS nS xs y cc nL rt d tc ts K c0 s0 S pc1 L (.int (a >>> (b &&& 31)) :: st)) : JdL bS nS xs y cc nL rt d tc ts K c0 s0 S pc L (.int b :: .int a :: st) := by
  intro p l e R s m args below meth c D q A Q C hXs hR H locs ls hP hS hl
  have C0 := C
  obtain ⟨hx, hb, hml, hown, hts, hrt, hlk, hini, hKK, hA, hdf, hdl, htc, hts2⟩ := C
  subst hp
  exact lv_ishr hx hb hd (k p l e R s m args below meth c D q A Q C0 hXs hR H locs ls hP hS hl)
theorem JL_ldc {v : Int32} (hw : Cond.constant y.cls ix v ∈ wsU) (hd : decode cc pc = .ok (.ldc ix, 2)) (hp : pc + 2 = pc1) (k : JdL bS nS xs y cc nL rt d tc ts K c0 s0 S pc1 L (.int v :: st)) : JdL bS nS xs y cc nL rt d tc ts K c0 s0 S pc L st := by
  intro p l e R s m args below meth c D q A Q C hXs hR H locs ls hP hS hl
  have C0 := C
  obtain ⟨hx, hb, hml, hown, hts, hrt, hlk, hini, hKK, hA, hdf, hdl, htc, hts2⟩ := C
  subst hp
  exact lv_ldc hx hb hown (hts _ hw) hd (k p l e R s m args below meth c D q A Q C0 hXs hR H locs ls hP hS hl)
theorem JL_neS {off : Int} {tgt : Nat} {a b : Int} (hd : decode cc pc = .ok (.if_icmp .ne off, 3)) (ht : (pc : Int) + off = (tgt : Int)) (hp : pc + 3 = pc1) (hab : a = b) (k : JdL bS nS xs y cc nL rt d tc ts K c0 s0 S pc1 L st) : JdL bS nS xs y cc nL rt d tc ts K c0 s0 S pc L (.int (iI b) :: .int (iI a) :: st) := by
  subst hab
  intro p l e R s m args below meth c D q A Q C hXs hR H locs ls hP hS hl
  have C0 := C
  obtain ⟨hx, hb, hml, hown, hts, hrt, hlk, hini, hKK, hA, hdf, hdl, htc, hts2⟩ := C
  subst hp
  exact lv_icmp_ne hx hb hd ht (fun h9 => absurd rfl h9) (fun _ => k p l e R s m args below meth c D q A Q C0 hXs hR H locs ls hP hS hl)
theorem JL_callVIs {P : pS → Prop} (hG : GoodIn wsU (wsV y.cls ix C y1 (.code y1 cc1 nL1 rt1 :: wsU))) (hy : y1.cls = C ∧ y1.cls ≠ "java/lang/invoke/MethodHandle" ∧ y1.cls ≠ "java/lang/invoke/VarHandle" ∧ (parseMethodDescriptor y1.desc).map (fun d => d.parameters.length) = some n) (hc : vwCl[ci]? = some (C, T9, N)) (hM : Ct y1 cc1 nL1 rt1 d1 mc ms (.ref b :: As) S (kIS z P)) (hd : decode cc pc = .ok (.invokevirtual ix, 3)) (hp : pc + 3 = pc1) (ha : S b = some (oO ci fs)) (hst : stk = As.reverse ++ .ref b :: st) (hn : As.length = n) (hdd : d1 + 1 ≤ d) (hnl : nL1 ≤ 21) (hcc : c0 + mc ≤ tc) (hss : s0 + ms ≤ ts) (hrm : (st.map fun v => v.category).sum ≤ 8) (k : ∀ S1, P S1 → JdL bS nS xs y cc nL rt d tc ts K (c0 + mc) (s0 + ms) S1 pc1 L (.int (iI z) :: st)) : JdL bS nS xs y cc nL rt d tc ts K c0 s0 S pc L stk := JL_callV hG hy hc hM hd hp ha hst hn hdd hnl hcc hss hrm (fun r S1 hK => by obtain ⟨rfl, h⟩ := hK; exact k S1 h)
theorem JL_callSIs {P : pS → Prop} (hG : GoodIn wsU (wsS y.cls ix y1 (.code y1 cc1 nL1 rt1 :: wsU))) (hy : y1.cls = y.cls ∧ y1.cls ≠ "java/lang/invoke/MethodHandle" ∧ y1.cls ≠ "java/lang/invoke/VarHandle" ∧ (parseMethodDescriptor y1.desc).map (fun d => d.parameters.length) = some n) (hM : Ct y1 cc1 nL1 rt1 d1 mc ms As S (kIS z P)) (hd : decode cc pc = .ok (.invokestatic ix, 3)) (hp : pc + 3 = pc1) (hst : stk = As.reverse ++ st) (hn : As.length = n) (hdd : d1 + 1 ≤ d) (hnl : nL1 ≤ 21) (hcc : c0 + mc ≤ tc) (hss : s0 + ms ≤ ts) (hrm : (st.map fun v => v.category).sum ≤ 8) (k : ∀ S1, P S1 → JdL bS nS xs y cc nL rt d tc ts K (c0 + mc) (s0 + ms) S1 pc1 L (.int (iI z) :: st)) : JdL bS nS xs y cc nL rt d tc ts K c0 s0 S pc L stk := JL_callS hG hy hM hd hp hst hn hdd hnl hcc hss hrm (fun r S1 hK => by obtain ⟨rfl, h⟩ := hK; exact k S1 h)
theorem JL_mA (hG : GoodIn wsU (wsV y.cls ix RX9 y1 (.code y1 cc1 nL1 rt1 :: wsU))) (hy : y1.cls = RX9 ∧ y1.cls ≠ "java/lang/invoke/MethodHandle" ∧ y1.cls ≠ "java/lang/invoke/VarHandle" ∧ (parseMethodDescriptor y1.desc).map (fun d => d.parameters.length) = some n) (hX : P2 S A B g tx l g2 tx2 l2) (hM : MC y1 cc1 nL1 rt1 d1 mc ms As g tx l z g' tx' l') (hd : decode cc pc = .ok (.invokevirtual ix, 3)) (hp : pc + 3 = pc1) (hst : stk = As.reverse ++ .ref (A 0) :: st) (hn : As.length = n) (hdd : d1 + 1 ≤ d) (hnl : nL1 ≤ 21) (hcc : c0 + mc ≤ tc) (hss : s0 + ms ≤ ts) (hrm : (st.map fun v => v.category).sum ≤ 8) (k : ∀ S1, P2 S1 A B g' tx' l' g2 tx2 l2 → JdL bS nS xs y cc nL rt d tc ts K (c0 + mc) (s0 + ms) S1 pc1 L (.int (iI z) :: st)) : JdL bS nS xs y cc nL rt d tc ts K c0 s0 S pc L stk := by
  obtain ⟨fs, h0⟩ := hX.a0
  exact JL_callVIs hG hy (ci := 9) rfl (hX.a hM) hd hp h0 hst hn hdd hnl hcc hss hrm k
theorem JL_sA (hG : GoodIn wsU (wsS y.cls ix y1 (.code y1 cc1 nL1 rt1 :: wsU))) (hy : y1.cls = y.cls ∧ y1.cls ≠ "java/lang/invoke/MethodHandle" ∧ y1.cls ≠ "java/lang/invoke/VarHandle" ∧ (parseMethodDescriptor y1.desc).map (fun d => d.parameters.length) = some n) (hX : P2 S A B g tx l g2 tx2 l2) (hM : MC y1 cc1 nL1 rt1 d1 mc ms As g tx l z g' tx' l') (hd : decode cc pc = .ok (.invokestatic ix, 3)) (hp : pc + 3 = pc1) (hst : stk = (.ref (A 0) :: As).reverse ++ st) (hn : As.length + 1 = n) (hdd : d1 + 1 ≤ d) (hnl : nL1 ≤ 21) (hcc : c0 + mc ≤ tc) (hss : s0 + ms ≤ ts) (hrm : (st.map fun v => v.category).sum ≤ 8) (k : ∀ S1, P2 S1 A B g' tx' l' g2 tx2 l2 → JdL bS nS xs y cc nL rt d tc ts K (c0 + mc) (s0 + ms) S1 pc1 L (.int (iI z) :: st)) : JdL bS nS xs y cc nL rt d tc ts K c0 s0 S pc L stk := JL_callSIs hG hy (hX.a hM) hd hp hst hn hdd hnl hcc hss hrm k
theorem JL_mB (hG : GoodIn wsU (wsV y.cls ix RX9 y1 (.code y1 cc1 nL1 rt1 :: wsU))) (hy : y1.cls = RX9 ∧ y1.cls ≠ "java/lang/invoke/MethodHandle" ∧ y1.cls ≠ "java/lang/invoke/VarHandle" ∧ (parseMethodDescriptor y1.desc).map (fun d => d.parameters.length) = some n) (hX : P2 S A B g tx l g2 tx2 l2) (hM : MC y1 cc1 nL1 rt1 d1 mc ms As g2 tx2 l2 z g2' tx2' l2') (hd : decode cc pc = .ok (.invokevirtual ix, 3)) (hp : pc + 3 = pc1) (hst : stk = As.reverse ++ .ref (B 0) :: st) (hn : As.length = n) (hdd : d1 + 1 ≤ d) (hnl : nL1 ≤ 21) (hcc : c0 + mc ≤ tc) (hss : s0 + ms ≤ ts) (hrm : (st.map fun v => v.category).sum ≤ 8) (k : ∀ S1, P2 S1 A B g tx l g2' tx2' l2' → JdL bS nS xs y cc nL rt d tc ts K (c0 + mc) (s0 + ms) S1 pc1 L (.int (iI z) :: st)) : JdL bS nS xs y cc nL rt d tc ts K c0 s0 S pc L stk := by
  obtain ⟨fs, h0⟩ := hX.s.a0
  exact JL_callVIs hG hy (ci := 9) rfl (hX.b hM) hd hp h0 hst hn hdd hnl hcc hss hrm k
theorem JL_sB (hG : GoodIn wsU (wsS y.cls ix y1 (.code y1 cc1 nL1 rt1 :: wsU))) (hy : y1.cls = y.cls ∧ y1.cls ≠ "java/lang/invoke/MethodHandle" ∧ y1.cls ≠ "java/lang/invoke/VarHandle" ∧ (parseMethodDescriptor y1.desc).map (fun d => d.parameters.length) = some n) (hX : P2 S A B g tx l g2 tx2 l2) (hM : MC y1 cc1 nL1 rt1 d1 mc ms As g2 tx2 l2 z g2' tx2' l2') (hd : decode cc pc = .ok (.invokestatic ix, 3)) (hp : pc + 3 = pc1) (hst : stk = (.ref (B 0) :: As).reverse ++ st) (hn : As.length + 1 = n) (hdd : d1 + 1 ≤ d) (hnl : nL1 ≤ 21) (hcc : c0 + mc ≤ tc) (hss : s0 + ms ≤ ts) (hrm : (st.map fun v => v.category).sum ≤ 8) (k : ∀ S1, P2 S1 A B g tx l g2' tx2' l2' → JdL bS nS xs y cc nL rt d tc ts K (c0 + mc) (s0 + ms) S1 pc1 L (.int (iI z) :: st)) : JdL bS nS xs y cc nL rt d tc ts K c0 s0 S pc L stk := JL_callSIs hG hy (hX.b hM) hd hp hst hn hdd hnl hcc hss hrm k
theorem pH.kept {D : va_G} {q : qC} {A : Nat → Prop} {S : pS} {H H1 : Heap} (h : pH D q A S H) (hk : ∀ a : Nat, a < H.size → H1[a]? = H[a]?) : pH D q A S H1 := by
  obtain ⟨L, h1, h2, h3⟩ := h.out
  exact pH.mk h1 h2 (fun a e he => ⟨(h3 a e he).1, (h3 a e he).2.kept (hk a (h.lt he))⟩)
def nP : pS := fun _ => none
theorem pH_n (D : va_G) (q : qC) (A : Nat → Prop) (H : Heap) : pH D q A nP H := pH.mk (L := []) trivial (fun a => ⟨fun h => absurd h List.not_mem_nil, fun ⟨e, he⟩ => by cases he⟩) (fun a e he => by cases he)
def kR (r : Option Value) : Option Value → pS → Prop := fun r' S' => r' = r ∧ S' = nP
/-- a method that only reads the script -/
def CtL (bS nS : Nat) (xs : Nat → Int32) (y : MethodName) (cc : ByteArray) (nL : Nat) (rt : Option FieldType) (d : Nat) (vs : List Value) (r : Option Value) : Prop :=
  ∀ (d' : Nat), d ≤ d' → ∀ (l : Launch) (D : va_G) (q : qC) (sz : Nat), Met l y (.code y cc nL rt :: wsU) (rmJ d' 0 0) (va_Pc vs (fun U => U.heap.size = sz ∧ pH D q (fun _ => True) nP U.heap ∧ KK D q U ∧ va_X bS nS xs U U.heap ∧ bS < sz)) (QJ D q (kR r) (aS nP sz)) 0 0 (aS nP sz)
set_option maxHeartbeats 1000000 in
theorem CtL.ofJ {y : MethodName} {cc : ByteArray} {nL : Nat} {rt : Option FieldType} {d : Nat} {vs : List Value} {r : Option Value} (hy : plainName y.cls = true) (hn : (lg_sl vs).length ≤ nL) (J : JdL bS nS xs y cc nL rt d 0 0 (kR r) 0 0 nP 0 (argL vs nL) []) : CtL bS nS xs y cc nL rt d vs r := by
  intro d' hd l D q sz
  refine Met.ofW (cc := cc) (maxL := nL) (ret := rt) hy rfl ?_
  intro p e s m args below meth c s₁ B hml hv
  obtain ⟨rfl, hsz, hP, hK, hXs, hbl⟩ := hv
  have hts := atoms_spec (ws := .code y cc nL rt :: wsU) B.pre
  subst hsz
  have hl := lvL.entry vs hn
  rw [lg_entry_eq]
  generalize (lg_sl vs ++ List.replicate (nL - (lg_sl vs).length) Slot.unset).toArray = ls at hl ⊢
  have hA : ∀ x : Nat, s.heap.size ≤ x → aS nP s.heap.size x := fun x h => Or.inr h
  have hnA : ¬ aS nP s.heap.size bS := fun z => by
    rcases z with ⟨e9, he⟩ | z
    · cases he
    · omega
  refine J p l e (rmJ d' 0 0) s m vs.toArray below meth c D q (aS nP s.heap.size) (MQ below (QJ D q (kR r) (aS nP s.heap.size)) vs.toArray s 0 0 (aS nP s.heap.size))
    ⟨B.exec, B.bytes, hml, findClass_of_methodNamed B.named, fun w hw => hts w (List.mem_cons_of_mem _ hw), B.returns, B.notSynchronized, fun h => by rw [← h]; exact (name_of_methodNamed B.named B.method).1, hK, hA, hd, Nat.mul_le_mul_left 40 hd, Nat.le_refl _, Nat.le_refl _⟩ ⟨hXs, hbl, hnA⟩ ?_ s.heap [] ls (hP.weaken (fun a x hx _ => Or.inl ⟨x, hx⟩)) va_S.rf hl
  intro r9 S' hr H locs ls pc ins hins hdg hP' hS'
  have hq : ∀ t : State, t.heap = H → s.WarmedH t.vm → QJ D q (kR r) (aS nP s.heap.size) vs.toArray s (.returned r9) t := fun t ht hW => ⟨⟨r9, S', rfl, hr, by rw [ht]; exact hP'⟩, hS'.F ht⟩
  have hlocks := B.notSynchronized
  rcases hins with ⟨rfl, h2, rfl⟩ | ⟨rfl, ty, v, h2, rfl, h3⟩ | ⟨rfl, n, a, h2, rfl⟩
  · exact W.vret B.exec B.bytes (B.returns.trans h2) hq hS'.2.2 hdg hlocks
  · exact W.zret B.exec B.bytes (B.returns.trans h2) h3 hq hS'.2.2 hdg hlocks
  · exact W.aret B.exec B.bytes (B.returns.trans h2) (Or.inl ⟨n, rfl⟩) (Or.inr ⟨a, rfl⟩) hq hS'.2.2 hdg hlocks
theorem JL_callC {v : Value} (hG : GoodIn wsU (wsS y.cls ix y1 (.code y1 cc1 nL1 rt1 :: wsU))) (hy : y1.cls = y.cls ∧ y1.cls ≠ "java/lang/invoke/MethodHandle" ∧ y1.cls ≠ "java/lang/invoke/VarHandle" ∧ (parseMethodDescriptor y1.desc).map (fun d => d.parameters.length) = some n) (hM : CtL bS nS xs y1 cc1 nL1 rt1 d1 As (some v)) (hd : decode cc pc = .ok (.invokestatic ix, 3)) (hp : pc + 3 = pc1) (hst : stk = As.reverse ++ st) (hn : As.length = n) (hdd : d1 + 1 ≤ d) (hnl : nL1 ≤ 21) (hcc : c0 ≤ tc) (hss : s0 ≤ ts) (hrm : (st.map fun v => v.category).sum ≤ 8) (k : JdL bS nS xs y cc nL rt d tc ts K c0 s0 S pc1 L (v :: st)) : JdL bS nS xs y cc nL rt d tc ts K c0 s0 S pc L stk := by
  intro p l e R s m args below meth c D q A Q C hXs hR H locs ls hP hS hl
  have C0 := C
  obtain ⟨hx, hb, hml, hown, hts, hrt, hlk, hini, hKK, hA, hdf, hdl, htc, hts2⟩ := C
  subst hp
  subst hst
  have hrun := va_runS (H := H) (locs := locs) (cells := c0) (slots := s0) (e := e) (meth := meth) (below := below) (g := F0 m pc ls (As.reverse ++ st)) (rest := st) (As := As) ⟨hx, hb, hml, hown, hts⟩ (hM d1 (Nat.le_refl _) l D q H.size) (cwS (R := R) n hts hG rfl rfl rfl hy ⟨by show d1 + 1 ≤ _; omega, by show 8 + (nL1 + 11) + 40 * d1 ≤ _; omega⟩) ⟨fun a U g mk z => by obtain ⟨q0, q1, q2, q3, q4, q5⟩ := z; exact ⟨q0, q1, q2, KK.same (u := U) (U := U.calling g mk a) rfl q3, va_X.moved (u := U) (U := U.calling g mk a) (Vm.Alike.refl _) q4, q5⟩, fun U hU hW => ⟨rfl, by rw [hU], pH_n _ _ _ _, KK.warm hW hKK, by rw [hU]; exact (hXs.1.kept (hS.2.1 bS hXs.2.1 hXs.2.2)).moved hW.alike, Nat.lt_of_lt_of_le hXs.2.1 hS.1⟩⟩ rfl hn (hl.1) rfl (lv_room hrm) hd ⟨Nat.le_trans hcc htc, Nat.le_trans hss hts2⟩
  intro T hT X
  obtain ⟨w, st₀, t, T1, L9, e0, X1, hL9, e1, e2, ⟨⟨r, S1, hoc, ⟨hr1, hr2⟩, hP1⟩, hF⟩, hgo⟩ := hrun T hT X
  cases hoc
  subst hr1
  obtain ⟨f1, f2⟩ := hF
  rw [e0, ← e1] at f1 f2
  have hnA : ∀ x : Nat, x < H.size → ¬ aS nP H.size x := fun x hx9 z => by
    rcases z with ⟨e9, he⟩ | z
    · cases he
    · omega
  have hS1 : va_S A s.heap T1.heap (locs ++ L9) := ⟨Nat.le_trans hS.1 f1, fun x h1 h2 => (f2 x (Nat.lt_of_lt_of_le h1 hS.1) (hnA x (Nat.lt_of_lt_of_le h1 hS.1))).trans (hS.2.1 x h1 h2), fun x hx9 => (List.mem_append.mp hx9).elim (hS.2.2 x) (fun z => by
    rcases hL9 x z with ⟨e9, he⟩ | z2
    · cases he
    · exact hA _ (Nat.le_trans hS.1 z2))⟩
  obtain ⟨t2, a1, b1⟩ := k p l e R s m args below meth c D q A Q C0 hXs hR T1.heap (locs ++ L9) ls (hP.kept (fun x hx9 => f2 x hx9 (hnA x hx9))) hS1 hl T1 rfl X1
  exact ⟨t2, hgo t2 a1, b1⟩
end JRL
/-- what the law reads of the script -/
def ceF (nS : Nat) (xs : Nat → Int32) (k : Int) : Int32 := if k < nS then xs k.toNat else iI (2143805907 * (k + 1429))
theorem c_L_cell {bS nS : Nat} {xs : Nat → Int32} (hn : nS ≤ 260) {k : Int} (hk : 0 ≤ k ∧ k ≤ 100) : CtL bS nS xs yL_cell cL_cell 2 (some .int) 0 [.ref bS, .int (iI k)] (some (.int (ceF nS xs k))) := by
  refine CtL.ofJ (by decide +kernel) (Nat.le_of_ble_eq_true rfl) ?_
  refine JL_L (L1 := [some (.ref bS), some (.int (iI k))]) rfl ?_
  refine JL_iload_n (pc1 := 1) rfl (i := 1) rfl dL_cell_0 rfl ?_
  refine JL_aload_n (pc1 := 2) rfl (i := 0) rfl dL_cell_1 rfl ?_
  refine JL_slen (pc1 := 3) dL_cell_2 rfl ?_
  refine JL_icmp_ge (pc1 := 6) (tgt := 12) (by omega) (by omega) (by omega) (by omega) dL_cell_3 rfl rfl (fun h => ?_) (fun h => ?_)
  · refine JL_ldc (pc1 := 14) lk_L_7 dL_cell_12 rfl ?_
    refine JL_iload_n (pc1 := 15) rfl (i := 1) rfl dL_cell_14 rfl ?_
    refine JL_sipush (pc1 := 18) (by decide) dL_cell_15 rfl ?_
    refine JL_iadd (pc1 := 19) dL_cell_18 rfl ?_
    refine JL_st (st1 := [.int (iI (k + 1429)), .int (iI 2143805907)]) rfl ?_
    refine JL_imul (pc1 := 20) dL_cell_19 rfl ?_
    refine JL_st (st1 := [.int (ceF nS xs k)]) (by unfold ceF; rw [if_neg (by omega)]) ?_
    exact JL_iret rfl rfl dL_cell_20 (Nat.le_refl _) (Nat.le_refl _) ⟨rfl, rfl⟩
  · refine JL_aload_n (pc1 := 7) rfl (i := 0) rfl dL_cell_6 rfl ?_
    refine JL_iload_n (pc1 := 8) rfl (i := 1) rfl dL_cell_7 rfl ?_
    refine JL_sld (pc1 := 9) (v := ceF nS xs k) dL_cell_8 rfl hk.1 (by omega) (by omega) (by unfold ceF; rw [if_pos (by omega)]) ?_
    refine JL_goto (tgt := 20) dL_cell_9 rfl ?_
    exact JL_iret rfl rfl dL_cell_20 (Nat.le_refl _) (Nat.le_refl _) ⟨rfl, rfl⟩
