/-! 05.spec: words for the states. A game is a row f of 19 numbers (settings 0..3, hand 4, first 5, rounds 6, hours 7 8, began 9 10, paid 11 12, took 13 14, won 15 16, clock 17, over 18) -/
def kI (x : Int) (S : pS) : Option Value → pS → Prop := fun r S' => r = some (.int (iI x)) ∧ S' = S
def kF (a : Nat) (S : pS) : Option Value → pS → Prop := fun r S' => r = some (.ref a) ∧ S' = S
def kN (T : pS) : Option Value → pS → Prop := fun r S' => r = none ∧ S' = T
def kIS (x : Int) (P : pS → Prop) : Option Value → pS → Prop := fun r S' => r = some (.int (iI x)) ∧ P S'
def kNS (P : pS → Prop) : Option Value → pS → Prop := fun r S' => r = none ∧ P S'
theorem kI_mk {x y : Int} {S : pS} (h : y = x) : kI x S (some (.int (iI y))) S := ⟨by rw [h], rfl⟩
theorem kIS_mk {x y : Int} {S : pS} {P : pS → Prop} (h : y = x) (hP : P S) : kIS x P (some (.int (iI y))) S := ⟨by rw [h], hP⟩
theorem kF_mk {a b : Nat} {S : pS} (h : b = a) : kF a S (some (.ref b)) S := ⟨by rw [h], rfl⟩
theorem kN_mk {S T : pS} (h : S = T) : kN T none S := ⟨rfl, h⟩
def bZ (P : Prop) [Decidable P] : Int := if P then 1 else 0
theorem bZ_t {P : Prop} [Decidable P] (h : P) : 1 = bZ P := (if_pos h).symm
theorem bZ_f {P : Prop} [Decidable P] (h : ¬ P) : 0 = bZ P := (if_neg h).symm
theorem bZ_0 {P : Prop} [Decidable P] (h : bZ P = 0) : ¬ P := fun q => by rw [← bZ_t q] at h; omega
theorem bZ_1 {P : Prop} [Decidable P] (h : ¬ bZ P = 0) : P := Decidable.byContradiction fun q => h (bZ_f q).symm
theorem bZ_lo (P : Prop) [Decidable P] : -2147483648 ≤ bZ P := by unfold bZ; split <;> decide
theorem bZ_hi (P : Prop) [Decidable P] : bZ P < 2147483648 := by unfold bZ; split <;> decide
theorem bZ_c {P P2 : Prop} [Decidable P] [Decidable P2] (h : P ↔ P2) : bZ P = bZ P2 := by unfold bZ; simp only [h]
theorem nar_bZ (P : Prop) [Decidable P] : narrow .boolean (.int (iI (bZ P))) = .int (iI (bZ P)) := by unfold bZ; split <;> rfl
theorem nar_b {x : Int} (h : x = 0 ∨ x = 1) : narrow .boolean (.int (iI x)) = .int (iI x) := by rcases h with rfl | rfl <;> rfl
theorem pu_pu (S : pS) (a : Nat) (e1 e2 : pE) : pu (pu S a e1) a e2 = pu S a e2 := by
  funext x
  unfold pu
  split <;> rfl
theorem pu_comm (S : pS) {a b : Nat} (e1 e2 : pE) (h : a ≠ b) : pu (pu S a e1) b e2 = pu (pu S b e2) a e1 := by
  funext x
  unfold pu
  by_cases ha : x = a
  · by_cases hb : x = b
    · exact absurd (ha.symm.trans hb) h
    · rw [if_neg hb, if_pos ha, if_pos ha]
  · by_cases hb : x = b
    · rw [if_pos hb, if_neg ha, if_pos hb]
    · rw [if_neg hb, if_neg ha, if_neg ha, if_neg hb]
theorem pu_id {S : pS} {a : Nat} {e : pE} (h : S a = some e) : pu S a e = S := by
  funext x
  unfold pu
  split
  · next q => rw [q, h]
  · rfl
theorem ne_S {S : pS} {a b : Nat} {x y : pE} (ha : S a = some x) (hb : S b = some y) (h : x ≠ y) : a ≠ b := fun q => h (by rw [q, hb] at ha; exact (Option.some.inj ha).symm)
theorem ne_ci {S : pS} {a b i j : Nat} {fs gs : List Value} (ha : S a = some (oO i fs)) (hb : S b = some (oO j gs)) (h : i ≠ j) : a ≠ b := ne_S ha hb (fun q => h (by cases q; rfl))
theorem ne_OI {S : pS} {a b i n : Nat} {fs : List Value} {f : Nat → Int32} (ha : S a = some (oO i fs)) (hb : S b = some (oI n f)) : a ≠ b := ne_S ha hb (fun q => by cases q)
theorem ne_IO {S : pS} {a b i n : Nat} {fs : List Value} {f : Nat → Int32} (hb : S b = some (oI n f)) (ha : S a = some (oO i fs)) : b ≠ a := (ne_OI ha hb).symm
theorem ne_OQ {S : pS} {a b i k n : Nat} {fs : List Value} {f : Nat → Option Nat} (ha : S a = some (oO i fs)) (hb : S b = some (oQ k n f)) : a ≠ b := ne_S ha hb (fun q => by cases q)
theorem ne_QO {S : pS} {a b i k n : Nat} {fs : List Value} {f : Nat → Option Nat} (hb : S b = some (oQ k n f)) (ha : S a = some (oO i fs)) : b ≠ a := (ne_OQ ha hb).symm
theorem ne_IQ {S : pS} {a b m k n : Nat} {g : Nat → Int32} {f : Nat → Option Nat} (ha : S a = some (oI m g)) (hb : S b = some (oQ k n f)) : a ≠ b := ne_S ha hb (fun q => by cases q)
theorem ne_QI {S : pS} {a b m k n : Nat} {g : Nat → Int32} {f : Nat → Option Nat} (hb : S b = some (oQ k n f)) (ha : S a = some (oI m g)) : b ≠ a := (ne_IQ ha hb).symm
theorem ne_II {S : pS} {a b m n : Nat} {g f : Nat → Int32} (ha : S a = some (oI m g)) (hb : S b = some (oI n f)) (h : m ≠ n) : a ≠ b := ne_S ha hb (fun q => h (by cases q; rfl))
theorem ne_QQ {S : pS} {a b j k m n : Nat} {g f : Nat → Option Nat} (ha : S a = some (oQ j m g)) (hb : S b = some (oQ k n f)) (h : j ≠ k) : a ≠ b := ne_S ha hb (fun q => h (by cases q; rfl))
theorem ne_N {S : pS} {a b : Nat} {x : pE} (ha : S a = some x) (hb : S b = none) : a ≠ b := fun q => by rw [q, hb] at ha; cases ha
abbrev gameO (f : Int → Int) (z o : Nat) : pE := oO 2 [.int (iI (f 0)), .int (iI (f 1)), .int (iI (f 2)), .int (iI (f 3)), .int (iI (f 4)), .int (iI (f 5)), .int (iI (f 6)), .int (iI (f 17)), .ref z, .ref o]
abbrev sdO (b h p t w : Int) : pE := oO 6 [.int (iI b), .int (iI h), .int (iI p), .int (iI t), .int (iI w)]
abbrev sdZ (f : Int → Int) : pE := sdO (f 9) (f 7) (f 11) (f 13) (f 15)
abbrev sdW (f : Int → Int) : pE := sdO (f 10) (f 8) (f 12) (f 14) (f 16)
def IsG (S : pS) (g z o : Nat) (f : Int → Int) : Prop := S g = some (gameO f z o) ∧ S z = some (sdZ f) ∧ S o = some (sdW f) ∧ z ≠ o
/-- what holds of every game that can come about -/
def okF (f : Int → Int) : Prop := (1 ≤ f 0 ∧ f 0 ≤ 3) ∧ (0 ≤ f 1 ∧ f 1 ≤ 2) ∧ (f 2 = 0 ∨ f 2 = 1) ∧ (f 3 = 0 ∨ f 3 = 1) ∧ (-f 0 ≤ f 4 ∧ f 4 ≤ f 0) ∧ (f 5 = 0 ∨ f 5 = 1) ∧ (-f 1 ≤ f 7 ∧ -f 1 ≤ f 8) ∧ (0 ≤ f 9 ∧ f 9 ≤ 6) ∧ (0 ≤ f 10 ∧ f 10 ≤ 6) ∧ f 7 + f 8 ≤ 12 ∧ (f 2 = 1 → f 7 ≤ 6 ∧ f 8 ≤ 6) ∧ f 18 = f 15 + f 16
def winE (e h : Int) : Int := if e ≤ h then 0 else if h ≤ -e then 1 else -1006
abbrev winF (f : Int → Int) : Int := winE (f 0) (f 4)
def hoF (f : Int → Int) (p : Int) : Int := if p = 0 then f 7 else f 8
def moF (f : Int → Int) (p : Int) : Int := hoF f p + f 1
def twF (f : Int → Int) (p : Int) : Int := if p = 0 then f 0 - f 4 else f 0 + f 4
def gaE (p x : Int) : Int := if p = 0 then x else 0
abbrev gaF (f : Int → Int) (x : Int) : Int := gaE (f 2) x
def tkF (f : Int → Int) (b a : Int) : Int := if a < b ∨ (b = a ∧ f 3 = 0) then f 5 else 1 - f 5
def alF (f : Int → Int) (b a : Int) : Prop := winF f = -1006 ∧ b ≤ moF f (f 5) ∧ a ≤ moF f (1 - f 5)
theorem moF_b {f : Int → Int} (ok : okF f) {p : Int} : 0 ≤ moF f p ∧ moF f p ≤ 16 := by
  obtain ⟨o0, o1, o2, o3, o4, o5, o7, o9, o10, o12, o13, -⟩ := ok
  unfold moF hoF
  split <;> omega
theorem winE_b (e h : Int) : winE e h = 0 ∨ winE e h = 1 ∨ winE e h = -1006 := by
  unfold winE
  split
  · exact Or.inl rfl
  · split
    · exact Or.inr (Or.inl rfl)
    · exact Or.inr (Or.inr rfl)
section JD
variable {y : MethodName} {cc : ByteArray} {nL : Nat} {rt : Option FieldType} {d tc ts : Nat} {K : Option Value → pS → Prop} {c0 s0 : Nat} {S : pS} {pc : Nat} {L : List (Option Value)} {st : List Value}
theorem J_L {L1 : List (Option Value)} (h : L = L1) (k : Jd y cc nL rt d tc ts K c0 s0 S pc L1 st) : Jd y cc nL rt d tc ts K c0 s0 S pc L st := by rw [h]; exact k
theorem J_S {S1 : pS} (h : S = S1) (k : Jd y cc nL rt d tc ts K c0 s0 S1 pc L st) : Jd y cc nL rt d tc ts K c0 s0 S pc L st := by rw [h]; exact k
variable {y1 : MethodName} {cc1 : ByteArray} {nL1 : Nat} {rt1 : Option FieldType} {d1 mc ms n : Nat} {As : List Value} {pc1 ix b ci N : Nat} {C : String} {T9 : u_T} {fs : List Value} {stk : List Value}
theorem J_callVI {x : Int} (hG : GoodIn wsU (wsV y.cls ix C y1 (.code y1 cc1 nL1 rt1 :: wsU))) (hy : y1.cls = C ∧ y1.cls ≠ "java/lang/invoke/MethodHandle" ∧ y1.cls ≠ "java/lang/invoke/VarHandle" ∧ (parseMethodDescriptor y1.desc).map (fun d => d.parameters.length) = some n) (hc : vwCl[ci]? = some (C, T9, N)) (hM : Ct y1 cc1 nL1 rt1 d1 mc ms (.ref b :: As) S (kI x S)) (hd : decode cc pc = .ok (.invokevirtual ix, 3)) (hp : pc + 3 = pc1) (ha : S b = some (oO ci fs)) (hst : stk = As.reverse ++ .ref b :: st) (hn : As.length = n) (hdd : d1 + 1 ≤ d) (hnl : nL1 ≤ 21) (hcc : c0 + mc ≤ tc) (hss : s0 + ms ≤ ts) (hrm : (st.map fun v => v.category).sum ≤ 8) (k : Jd y cc nL rt d tc ts K (c0 + mc) (s0 + ms) S pc1 L (.int (iI x) :: st)) : Jd y cc nL rt d tc ts K c0 s0 S pc L stk := J_callV hG hy hc hM hd hp ha hst hn hdd hnl hcc hss hrm (fun r S1 hr => by obtain ⟨rfl, rfl⟩ := hr; exact k)
theorem J_callVF {a : Nat} (hG : GoodIn wsU (wsV y.cls ix C y1 (.code y1 cc1 nL1 rt1 :: wsU))) (hy : y1.cls = C ∧ y1.cls ≠ "java/lang/invoke/MethodHandle" ∧ y1.cls ≠ "java/lang/invoke/VarHandle" ∧ (parseMethodDescriptor y1.desc).map (fun d => d.parameters.length) = some n) (hc : vwCl[ci]? = some (C, T9, N)) (hM : Ct y1 cc1 nL1 rt1 d1 mc ms (.ref b :: As) S (kF a S)) (hd : decode cc pc = .ok (.invokevirtual ix, 3)) (hp : pc + 3 = pc1) (ha : S b = some (oO ci fs)) (hst : stk = As.reverse ++ .ref b :: st) (hn : As.length = n) (hdd : d1 + 1 ≤ d) (hnl : nL1 ≤ 21) (hcc : c0 + mc ≤ tc) (hss : s0 + ms ≤ ts) (hrm : (st.map fun v => v.category).sum ≤ 8) (k : Jd y cc nL rt d tc ts K (c0 + mc) (s0 + ms) S pc1 L (.ref a :: st)) : Jd y cc nL rt d tc ts K c0 s0 S pc L stk := J_callV hG hy hc hM hd hp ha hst hn hdd hnl hcc hss hrm (fun r S1 hr => by obtain ⟨rfl, rfl⟩ := hr; exact k)
theorem J_callVN {T : pS} (hG : GoodIn wsU (wsV y.cls ix C y1 (.code y1 cc1 nL1 rt1 :: wsU))) (hy : y1.cls = C ∧ y1.cls ≠ "java/lang/invoke/MethodHandle" ∧ y1.cls ≠ "java/lang/invoke/VarHandle" ∧ (parseMethodDescriptor y1.desc).map (fun d => d.parameters.length) = some n) (hc : vwCl[ci]? = some (C, T9, N)) (hM : Ct y1 cc1 nL1 rt1 d1 mc ms (.ref b :: As) S (kN T)) (hd : decode cc pc = .ok (.invokevirtual ix, 3)) (hp : pc + 3 = pc1) (ha : S b = some (oO ci fs)) (hst : stk = As.reverse ++ .ref b :: st) (hn : As.length = n) (hdd : d1 + 1 ≤ d) (hnl : nL1 ≤ 21) (hcc : c0 + mc ≤ tc) (hss : s0 + ms ≤ ts) (hrm : (st.map fun v => v.category).sum ≤ 8) (k : Jd y cc nL rt d tc ts K (c0 + mc) (s0 + ms) T pc1 L st) : Jd y cc nL rt d tc ts K c0 s0 S pc L stk := J_callV hG hy hc hM hd hp ha hst hn hdd hnl hcc hss hrm (fun r S1 hr => by obtain ⟨rfl, rfl⟩ := hr; exact k)
theorem J_callVIs {x : Int} {P : pS → Prop} (hG : GoodIn wsU (wsV y.cls ix C y1 (.code y1 cc1 nL1 rt1 :: wsU))) (hy : y1.cls = C ∧ y1.cls ≠ "java/lang/invoke/MethodHandle" ∧ y1.cls ≠ "java/lang/invoke/VarHandle" ∧ (parseMethodDescriptor y1.desc).map (fun d => d.parameters.length) = some n) (hc : vwCl[ci]? = some (C, T9, N)) (hM : Ct y1 cc1 nL1 rt1 d1 mc ms (.ref b :: As) S (kIS x P)) (hd : decode cc pc = .ok (.invokevirtual ix, 3)) (hp : pc + 3 = pc1) (ha : S b = some (oO ci fs)) (hst : stk = As.reverse ++ .ref b :: st) (hn : As.length = n) (hdd : d1 + 1 ≤ d) (hnl : nL1 ≤ 21) (hcc : c0 + mc ≤ tc) (hss : s0 + ms ≤ ts) (hrm : (st.map fun v => v.category).sum ≤ 8) (k : ∀ S1, P S1 → Jd y cc nL rt d tc ts K (c0 + mc) (s0 + ms) S1 pc1 L (.int (iI x) :: st)) : Jd y cc nL rt d tc ts K c0 s0 S pc L stk := J_callV hG hy hc hM hd hp ha hst hn hdd hnl hcc hss hrm (fun r S1 hr => by obtain ⟨rfl, hr⟩ := hr; exact k S1 hr)
theorem J_callVNs {P : pS → Prop} (hG : GoodIn wsU (wsV y.cls ix C y1 (.code y1 cc1 nL1 rt1 :: wsU))) (hy : y1.cls = C ∧ y1.cls ≠ "java/lang/invoke/MethodHandle" ∧ y1.cls ≠ "java/lang/invoke/VarHandle" ∧ (parseMethodDescriptor y1.desc).map (fun d => d.parameters.length) = some n) (hc : vwCl[ci]? = some (C, T9, N)) (hM : Ct y1 cc1 nL1 rt1 d1 mc ms (.ref b :: As) S (kNS P)) (hd : decode cc pc = .ok (.invokevirtual ix, 3)) (hp : pc + 3 = pc1) (ha : S b = some (oO ci fs)) (hst : stk = As.reverse ++ .ref b :: st) (hn : As.length = n) (hdd : d1 + 1 ≤ d) (hnl : nL1 ≤ 21) (hcc : c0 + mc ≤ tc) (hss : s0 + ms ≤ ts) (hrm : (st.map fun v => v.category).sum ≤ 8) (k : ∀ S1, P S1 → Jd y cc nL rt d tc ts K (c0 + mc) (s0 + ms) S1 pc1 L st) : Jd y cc nL rt d tc ts K c0 s0 S pc L stk := J_callV hG hy hc hM hd hp ha hst hn hdd hnl hcc hss hrm (fun r S1 hr => by obtain ⟨rfl, hr⟩ := hr; exact k S1 hr)
theorem J_callSI {x : Int} (hG : GoodIn wsU (wsS y.cls ix y1 (.code y1 cc1 nL1 rt1 :: wsU))) (hy : y1.cls = y.cls ∧ y1.cls ≠ "java/lang/invoke/MethodHandle" ∧ y1.cls ≠ "java/lang/invoke/VarHandle" ∧ (parseMethodDescriptor y1.desc).map (fun d => d.parameters.length) = some n) (hM : Ct y1 cc1 nL1 rt1 d1 mc ms As S (kI x S)) (hd : decode cc pc = .ok (.invokestatic ix, 3)) (hp : pc + 3 = pc1) (hst : stk = As.reverse ++ st) (hn : As.length = n) (hdd : d1 + 1 ≤ d) (hnl : nL1 ≤ 21) (hcc : c0 + mc ≤ tc) (hss : s0 + ms ≤ ts) (hrm : (st.map fun v => v.category).sum ≤ 8) (k : Jd y cc nL rt d tc ts K (c0 + mc) (s0 + ms) S pc1 L (.int (iI x) :: st)) : Jd y cc nL rt d tc ts K c0 s0 S pc L stk := J_callS hG hy hM hd hp hst hn hdd hnl hcc hss hrm (fun r S1 hr => by obtain ⟨rfl, rfl⟩ := hr; exact k)
theorem J_callSF {a : Nat} (hG : GoodIn wsU (wsS y.cls ix y1 (.code y1 cc1 nL1 rt1 :: wsU))) (hy : y1.cls = y.cls ∧ y1.cls ≠ "java/lang/invoke/MethodHandle" ∧ y1.cls ≠ "java/lang/invoke/VarHandle" ∧ (parseMethodDescriptor y1.desc).map (fun d => d.parameters.length) = some n) (hM : Ct y1 cc1 nL1 rt1 d1 mc ms As S (kF a S)) (hd : decode cc pc = .ok (.invokestatic ix, 3)) (hp : pc + 3 = pc1) (hst : stk = As.reverse ++ st) (hn : As.length = n) (hdd : d1 + 1 ≤ d) (hnl : nL1 ≤ 21) (hcc : c0 + mc ≤ tc) (hss : s0 + ms ≤ ts) (hrm : (st.map fun v => v.category).sum ≤ 8) (k : Jd y cc nL rt d tc ts K (c0 + mc) (s0 + ms) S pc1 L (.ref a :: st)) : Jd y cc nL rt d tc ts K c0 s0 S pc L stk := J_callS hG hy hM hd hp hst hn hdd hnl hcc hss hrm (fun r S1 hr => by obtain ⟨rfl, rfl⟩ := hr; exact k)
theorem J_callSN {T : pS} (hG : GoodIn wsU (wsS y.cls ix y1 (.code y1 cc1 nL1 rt1 :: wsU))) (hy : y1.cls = y.cls ∧ y1.cls ≠ "java/lang/invoke/MethodHandle" ∧ y1.cls ≠ "java/lang/invoke/VarHandle" ∧ (parseMethodDescriptor y1.desc).map (fun d => d.parameters.length) = some n) (hM : Ct y1 cc1 nL1 rt1 d1 mc ms As S (kN T)) (hd : decode cc pc = .ok (.invokestatic ix, 3)) (hp : pc + 3 = pc1) (hst : stk = As.reverse ++ st) (hn : As.length = n) (hdd : d1 + 1 ≤ d) (hnl : nL1 ≤ 21) (hcc : c0 + mc ≤ tc) (hss : s0 + ms ≤ ts) (hrm : (st.map fun v => v.category).sum ≤ 8) (k : Jd y cc nL rt d tc ts K (c0 + mc) (s0 + ms) T pc1 L st) : Jd y cc nL rt d tc ts K c0 s0 S pc L stk := J_callS hG hy hM hd hp hst hn hdd hnl hcc hss hrm (fun r S1 hr => by obtain ⟨rfl, rfl⟩ := hr; exact k)
theorem J_callSIs {x : Int} {P : pS → Prop} (hG : GoodIn wsU (wsS y.cls ix y1 (.code y1 cc1 nL1 rt1 :: wsU))) (hy : y1.cls = y.cls ∧ y1.cls ≠ "java/lang/invoke/MethodHandle" ∧ y1.cls ≠ "java/lang/invoke/VarHandle" ∧ (parseMethodDescriptor y1.desc).map (fun d => d.parameters.length) = some n) (hM : Ct y1 cc1 nL1 rt1 d1 mc ms As S (kIS x P)) (hd : decode cc pc = .ok (.invokestatic ix, 3)) (hp : pc + 3 = pc1) (hst : stk = As.reverse ++ st) (hn : As.length = n) (hdd : d1 + 1 ≤ d) (hnl : nL1 ≤ 21) (hcc : c0 + mc ≤ tc) (hss : s0 + ms ≤ ts) (hrm : (st.map fun v => v.category).sum ≤ 8) (k : ∀ S1, P S1 → Jd y cc nL rt d tc ts K (c0 + mc) (s0 + ms) S1 pc1 L (.int (iI x) :: st)) : Jd y cc nL rt d tc ts K c0 s0 S pc L stk := J_callS hG hy hM hd hp hst hn hdd hnl hcc hss hrm (fun r S1 hr => by obtain ⟨rfl, hr⟩ := hr; exact k S1 hr)
theorem J_callSNs {P : pS → Prop} (hG : GoodIn wsU (wsS y.cls ix y1 (.code y1 cc1 nL1 rt1 :: wsU))) (hy : y1.cls = y.cls ∧ y1.cls ≠ "java/lang/invoke/MethodHandle" ∧ y1.cls ≠ "java/lang/invoke/VarHandle" ∧ (parseMethodDescriptor y1.desc).map (fun d => d.parameters.length) = some n) (hM : Ct y1 cc1 nL1 rt1 d1 mc ms As S (kNS P)) (hd : decode cc pc = .ok (.invokestatic ix, 3)) (hp : pc + 3 = pc1) (hst : stk = As.reverse ++ st) (hn : As.length = n) (hdd : d1 + 1 ≤ d) (hnl : nL1 ≤ 21) (hcc : c0 + mc ≤ tc) (hss : s0 + ms ≤ ts) (hrm : (st.map fun v => v.category).sum ≤ 8) (k : ∀ S1, P S1 → Jd y cc nL rt d tc ts K (c0 + mc) (s0 + ms) S1 pc1 L st) : Jd y cc nL rt d tc ts K c0 s0 S pc L stk := J_callS hG hy hM hd hp hst hn hdd hnl hcc hss hrm (fun r S1 hr => by obtain ⟨rfl, hr⟩ := hr; exact k S1 hr)
theorem J_callI_N {T : pS} (hG : GoodIn wsU (.code y1 cc1 nL1 none :: wsU)) (hy : y1.name = "<init>" ∧ y1.cls ≠ "java/lang/invoke/MethodHandle" ∧ y1.cls ≠ "java/lang/invoke/VarHandle" ∧ (parseMethodDescriptor y1.desc).map (fun d => d.parameters.length) = some n) (hw1 : Cond.initialized y1.cls ∈ wsU) (hw2 : Cond.methodLink y.cls ix y1 ∈ wsU) (hw3 : Cond.instanceMethod y1 ∈ wsU) (hM : Ct y1 cc1 nL1 none d1 mc ms (.ref b :: As) S (kN T)) (hd : decode cc pc = .ok (.invokespecial ix, 3)) (hp : pc + 3 = pc1) (hst : stk = As.reverse ++ .ref b :: st) (hn : As.length = n) (hdd : d1 + 1 ≤ d) (hnl : nL1 ≤ 21) (hcc : c0 + mc ≤ tc) (hss : s0 + ms ≤ ts) (hrm : (st.map fun v => v.category).sum ≤ 8) (k : Jd y cc nL rt d tc ts K (c0 + mc) (s0 + ms) T pc1 L st) : Jd y cc nL rt d tc ts K c0 s0 S pc L stk := J_callI hG hy hw1 hw2 hw3 hM hd hp hst hn hdd hnl hcc hss hrm (fun r S1 hr => by obtain ⟨rfl, rfl⟩ := hr; exact k)
theorem J_callI_Ns {P : pS → Prop} (hG : GoodIn wsU (.code y1 cc1 nL1 none :: wsU)) (hy : y1.name = "<init>" ∧ y1.cls ≠ "java/lang/invoke/MethodHandle" ∧ y1.cls ≠ "java/lang/invoke/VarHandle" ∧ (parseMethodDescriptor y1.desc).map (fun d => d.parameters.length) = some n) (hw1 : Cond.initialized y1.cls ∈ wsU) (hw2 : Cond.methodLink y.cls ix y1 ∈ wsU) (hw3 : Cond.instanceMethod y1 ∈ wsU) (hM : Ct y1 cc1 nL1 none d1 mc ms (.ref b :: As) S (kNS P)) (hd : decode cc pc = .ok (.invokespecial ix, 3)) (hp : pc + 3 = pc1) (hst : stk = As.reverse ++ .ref b :: st) (hn : As.length = n) (hdd : d1 + 1 ≤ d) (hnl : nL1 ≤ 21) (hcc : c0 + mc ≤ tc) (hss : s0 + ms ≤ ts) (hrm : (st.map fun v => v.category).sum ≤ 8) (k : ∀ S1, P S1 → Jd y cc nL rt d tc ts K (c0 + mc) (s0 + ms) S1 pc1 L st) : Jd y cc nL rt d tc ts K c0 s0 S pc L stk := J_callI hG hy hw1 hw2 hw3 hM hd hp hst hn hdd hnl hcc hss hrm (fun r S1 hr => by obtain ⟨rfl, hr⟩ := hr; exact k S1 hr)
theorem J_callIN_N {T : pS} (hG : GoodIn wsU (.code y1 cc1 nL1 none :: wsU)) (hy : y1.name = "<init>" ∧ y1.cls ≠ "java/lang/invoke/MethodHandle" ∧ y1.cls ≠ "java/lang/invoke/VarHandle" ∧ (parseMethodDescriptor y1.desc).map (fun d => d.parameters.length) = some n) (hw1 : Cond.initialized y1.cls ∈ wsU) {host : String} (hw2 : (y.cls, ix, y1, host) ∈ nestL) (hw3 : Cond.instanceMethod y1 ∈ wsU) (hM : Ct y1 cc1 nL1 none d1 mc ms (.ref b :: As) S (kN T)) (hd : decode cc pc = .ok (.invokespecial ix, 3)) (hp : pc + 3 = pc1) (hst : stk = As.reverse ++ .ref b :: st) (hn : As.length = n) (hdd : d1 + 1 ≤ d) (hnl : nL1 ≤ 21) (hcc : c0 + mc ≤ tc) (hss : s0 + ms ≤ ts) (hrm : (st.map fun v => v.category).sum ≤ 8) (k : Jd y cc nL rt d tc ts K (c0 + mc) (s0 + ms) T pc1 L st) : Jd y cc nL rt d tc ts K c0 s0 S pc L stk := J_callIN hG hy hw1 hw2 hw3 hM hd hp hst hn hdd hnl hcc hss hrm (fun r S1 hr => by obtain ⟨rfl, rfl⟩ := hr; exact k)
theorem J_callIN_Ns {P : pS → Prop} (hG : GoodIn wsU (.code y1 cc1 nL1 none :: wsU)) (hy : y1.name = "<init>" ∧ y1.cls ≠ "java/lang/invoke/MethodHandle" ∧ y1.cls ≠ "java/lang/invoke/VarHandle" ∧ (parseMethodDescriptor y1.desc).map (fun d => d.parameters.length) = some n) (hw1 : Cond.initialized y1.cls ∈ wsU) {host : String} (hw2 : (y.cls, ix, y1, host) ∈ nestL) (hw3 : Cond.instanceMethod y1 ∈ wsU) (hM : Ct y1 cc1 nL1 none d1 mc ms (.ref b :: As) S (kNS P)) (hd : decode cc pc = .ok (.invokespecial ix, 3)) (hp : pc + 3 = pc1) (hst : stk = As.reverse ++ .ref b :: st) (hn : As.length = n) (hdd : d1 + 1 ≤ d) (hnl : nL1 ≤ 21) (hcc : c0 + mc ≤ tc) (hss : s0 + ms ≤ ts) (hrm : (st.map fun v => v.category).sum ≤ 8) (k : ∀ S1, P S1 → Jd y cc nL rt d tc ts K (c0 + mc) (s0 + ms) S1 pc1 L st) : Jd y cc nL rt d tc ts K c0 s0 S pc L stk := J_callIN hG hy hw1 hw2 hw3 hM hd hp hst hn hdd hnl hcc hss hrm (fun r S1 hr => by obtain ⟨rfl, hr⟩ := hr; exact k S1 hr)
theorem J_iaddE {a b z : Int} (hz : a + b = z) (hd : decode cc pc = .ok (.iadd, 1)) (hp : pc + 1 = pc1) (k : Jd y cc nL rt d tc ts K c0 s0 S pc1 L (.int (iI z) :: st)) : Jd y cc nL rt d tc ts K c0 s0 S pc L (.int (iI b) :: .int (iI a) :: st) := J_iadd hd hp (by rw [hz]; exact k)
theorem J_isubE {a b z : Int} (hz : a - b = z) (hd : decode cc pc = .ok (.isub, 1)) (hp : pc + 1 = pc1) (k : Jd y cc nL rt d tc ts K c0 s0 S pc1 L (.int (iI z) :: st)) : Jd y cc nL rt d tc ts K c0 s0 S pc L (.int (iI b) :: .int (iI a) :: st) := J_isub hd hp (by rw [hz]; exact k)
theorem J_imulE {a b z : Int} (hz : a * b = z) (hd : decode cc pc = .ok (.imul, 1)) (hp : pc + 1 = pc1) (k : Jd y cc nL rt d tc ts K c0 s0 S pc1 L (.int (iI z) :: st)) : Jd y cc nL rt d tc ts K c0 s0 S pc L (.int (iI b) :: .int (iI a) :: st) := J_imul hd hp (by rw [hz]; exact k)
end JD
theorem df_X0 : ∀ j, j < 1 → defaultValue (tyX0 j) = vp_V [.null] j := fun j hj => match j, hj with | 0, _ => rfl | (j + 1), h => absurd h (by omega)
theorem df_X1 : ∀ j, j < 1 → defaultValue (tyX1 j) = vp_V [.null] j := fun j hj => match j, hj with | 0, _ => rfl | (j + 1), h => absurd h (by omega)
theorem df_X2 : ∀ j, j < 10 → defaultValue (tyX2 j) = vp_V [.int (iI 0), .int (iI 0), .int (iI 0), .int (iI 0), .int (iI 0), .int (iI 0), .int (iI 0), .int (iI 0), .null, .null] j := fun j hj => match j, hj with | 0, _ => rfl | 1, _ => rfl | 2, _ => rfl | 3, _ => rfl | 4, _ => rfl | 5, _ => rfl | 6, _ => rfl | 7, _ => rfl | 8, _ => rfl | 9, _ => rfl | (j + 10), h => absurd h (by omega)
theorem df_X3 : ∀ j, j < 2 → defaultValue (tyX3 j) = vp_V [.null, .int (iI 0)] j := fun j hj => match j, hj with | 0, _ => rfl | 1, _ => rfl | (j + 2), h => absurd h (by omega)
theorem df_X4 : ∀ j, j < 1 → defaultValue (tyX4 j) = vp_V [.null] j := fun j hj => match j, hj with | 0, _ => rfl | (j + 1), h => absurd h (by omega)
theorem df_X5 : ∀ j, j < 2 → defaultValue (tyX5 j) = vp_V [.null, .int (iI 0)] j := fun j hj => match j, hj with | 0, _ => rfl | 1, _ => rfl | (j + 2), h => absurd h (by omega)
theorem df_X6 : ∀ j, j < 5 → defaultValue (tyX6 j) = vp_V [.int (iI 0), .int (iI 0), .int (iI 0), .int (iI 0), .int (iI 0)] j := fun j hj => match j, hj with | 0, _ => rfl | 1, _ => rfl | 2, _ => rfl | 3, _ => rfl | 4, _ => rfl | (j + 5), h => absurd h (by omega)
theorem df_X7 : ∀ j, j < 2 → defaultValue (tyX7 j) = vp_V [.null, .int (iI 0)] j := fun j hj => match j, hj with | 0, _ => rfl | 1, _ => rfl | (j + 2), h => absurd h (by omega)
theorem df_X8 : ∀ j, j < 7 → defaultValue (tyX8 j) = vp_V [.int (iI 0), .int (iI 0), .int (iI 0), .int (iI 0), .null, .null, .null] j := fun j hj => match j, hj with | 0, _ => rfl | 1, _ => rfl | 2, _ => rfl | 3, _ => rfl | 4, _ => rfl | 5, _ => rfl | 6, _ => rfl | (j + 7), h => absurd h (by omega)
theorem df_X9 : ∀ j, j < 8 → defaultValue (tyX9 j) = vp_V [.null, .null, .null, .null, .null, .null, .null, .null] j := fun j hj => match j, hj with | 0, _ => rfl | 1, _ => rfl | 2, _ => rfl | 3, _ => rfl | 4, _ => rfl | 5, _ => rfl | 6, _ => rfl | 7, _ => rfl | (j + 8), h => absurd h (by omega)
theorem pu_none {S : pS} {a b : Nat} {e : pE} (h : pu S a e b = none) : S b = none ∧ b ≠ a := by
  by_cases q : b = a
  · rw [q, pu_self] at h; cases h
  · rw [pu_ne _ _ q] at h; exact ⟨h, q⟩
