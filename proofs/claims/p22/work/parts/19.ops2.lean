/-! 19.ops2: play, what there is, what if, the pad -/
section JS2
variable {y : MethodName} {cc : ByteArray} {nL : Nat} {rt : Option FieldType} {d tc ts : Nat} {K : Option Value → pS → Prop} {c0 s0 : Nat} {S : pS} {pc : Nat} {L : List (Option Value)} {st : List Value}
theorem J_callS2 {y1 : MethodName} {cc1 : ByteArray} {nL1 : Nat} {rt1 : Option FieldType} {d1 mc ms n : Nat} {As : List Value} {K1 : Option Value → pS → Prop} {pc1 ix : Nat} {stk : List Value} (hG : GoodIn wsU (.code y1 cc1 nL1 rt1 :: wsU)) (hw1 : Cond.initialized y1.cls ∈ wsU) (hw2 : Cond.methodLink y.cls ix y1 ∈ wsU) (hw3 : Cond.static y1 ∈ wsU) (hy : y1.cls ≠ "java/lang/invoke/MethodHandle" ∧ y1.cls ≠ "java/lang/invoke/VarHandle" ∧ (parseMethodDescriptor y1.desc).map (fun d => d.parameters.length) = some n) (hM : Ct y1 cc1 nL1 rt1 d1 mc ms As S K1) (hd : decode cc pc = .ok (.invokestatic ix, 3)) (hp : pc + 3 = pc1) (hst : stk = As.reverse ++ st) (hn : As.length = n) (hdd : d1 + 1 ≤ d) (hnl : nL1 ≤ 21) (hcc : c0 + mc ≤ tc) (hss : s0 + ms ≤ ts) (hrm : (st.map fun v => v.category).sum ≤ 8) (k : ∀ (r : Option Value) (S1 : pS), K1 r S1 → Jd y cc nL rt d tc ts K (c0 + mc) (s0 + ms) S1 pc1 L (r.toList ++ st)) : Jd y cc nL rt d tc ts K c0 s0 S pc L stk := by
  intro p l e R s m args below meth c D q A Q C hR H locs ls hP hS hl
  have C0 := C
  obtain ⟨hx, hb, hml, hown, hts, hrt, hlk, hini, hKK, hA, hdf, hdl, htc, hts2⟩ := C
  have hK := hKK.1
  subst hp
  subst hst
  have hrun := va_runS (H := H) (locs := locs) (cells := c0) (slots := s0) (e := e) (meth := meth) (below := below) (g := F0 m pc ls (As.reverse ++ st)) (rest := st) (As := As) ⟨hx, hb, hml, hown, hts⟩ (hM d1 (Nat.le_refl _) l D q H.size) ⟨callB_of (R := R) n hts hG rfl rfl rfl (hts _ hw1) (hts _ hw2) hy ⟨by show d1 + 1 ≤ _; omega, by show 8 + (nL1 + 11) + 40 * d1 ≤ _; omega⟩, hts _ hw3⟩ ⟨fun a U g mk z => by obtain ⟨q0, q1, q2, q3⟩ := z; exact ⟨q0, q1, q2, KK.same (u := U) (U := U.calling g mk a) rfl q3⟩, fun U hU hW => ⟨rfl, by rw [hU], by rw [hU]; exact hP.weaken (fun _ _ _ _ => trivial), KK.warm hW hKK⟩⟩ rfl hn (hl.1) rfl (lv_room hrm) hd ⟨Nat.le_trans hcc htc, Nat.le_trans hss hts2⟩
  intro T hT X
  obtain ⟨v, st₀, t, T1, L9, e0, X1, hL9, e1, e2, ⟨⟨r, S1, hoc, hKr, hP1⟩, hF⟩, hgo⟩ := hrun T hT X
  cases hoc
  have hA1 : ∀ x : Nat, aS S H.size x → A x := fun x hx9 => hx9.elim (fun ⟨e9, he9⟩ => hP.inA he9) (fun h9 => hA x (Nat.le_trans hS.1 h9))
  rw [← e1] at hP1
  obtain ⟨f1, f2⟩ := hF
  rw [e0, ← e1] at f1 f2
  have hS1 : va_S A s.heap T1.heap (locs ++ L9) := ⟨Nat.le_trans hS.1 f1, fun x h1 h2 => (f2 x (Nat.lt_of_lt_of_le h1 hS.1) (fun z => h2 (hA1 x z))).trans (hS.2.1 x h1 h2), fun x hx9 => (List.mem_append.mp hx9).elim (hS.2.2 x) (fun z => hA1 _ (hL9 x z))⟩
  obtain ⟨t2, a1, b1⟩ := k v S1 hKr p l e R s m args below meth c D q A Q C0 hR T1.heap (locs ++ L9) ls (hP1.weaken (fun x e9 _ z => hA1 x z)) hS1 hl T1 rfl X1
  exact ⟨t2, hgo t2 a1, b1⟩
theorem J_callS2I {y1 : MethodName} {cc1 : ByteArray} {nL1 : Nat} {rt1 : Option FieldType} {d1 mc ms n : Nat} {As : List Value} {x : Int} {pc1 ix : Nat} {stk : List Value} (hG : GoodIn wsU (.code y1 cc1 nL1 rt1 :: wsU)) (hw1 : Cond.initialized y1.cls ∈ wsU) (hw2 : Cond.methodLink y.cls ix y1 ∈ wsU) (hw3 : Cond.static y1 ∈ wsU) (hy : y1.cls ≠ "java/lang/invoke/MethodHandle" ∧ y1.cls ≠ "java/lang/invoke/VarHandle" ∧ (parseMethodDescriptor y1.desc).map (fun d => d.parameters.length) = some n) (hM : Ct y1 cc1 nL1 rt1 d1 mc ms As S (kI x S)) (hd : decode cc pc = .ok (.invokestatic ix, 3)) (hp : pc + 3 = pc1) (hst : stk = As.reverse ++ st) (hn : As.length = n) (hdd : d1 + 1 ≤ d) (hnl : nL1 ≤ 21) (hcc : c0 + mc ≤ tc) (hss : s0 + ms ≤ ts) (hrm : (st.map fun v => v.category).sum ≤ 8) (k : Jd y cc nL rt d tc ts K (c0 + mc) (s0 + ms) S pc1 L (.int (iI x) :: st)) : Jd y cc nL rt d tc ts K c0 s0 S pc L stk := J_callS2 hG hw1 hw2 hw3 hy hM hd hp hst hn hdd hnl hcc hss hrm (fun r S1 hr => by obtain ⟨rfl, rfl⟩ := hr; exact k)
end JS2
/-- the reserved cells are arrays of numbers -/
def RX (X : Nat → Prop) (S : pS) : Prop := ∀ a, X a → ∃ n f, S a = some (oI n f)
theorem RX_nn {X : Nat → Prop} {S : pS} (h : RX X S) : ∀ a, X a → S a ≠ none := fun a ha => by
  obtain ⟨n, f, e⟩ := h a ha
  exact nn_S e
theorem RX_fr {X : Nat → Prop} {S T : pS} {A : Nat → Nat} {f f1 f2 : Int → Int} {b0 b1 : Int} {n : Nat} {H : Nat → Int → Int} {tx : Int → Int} {L : Nat} (h : RX X S) (hT : XS X T A f f1 f2 b0 b1 n H tx L) (fr : frX S T (A 6)) : RX X T := fun a ha => by
  by_cases e : a = A 6
  · obtain ⟨G, Z, O, F, mm, tb, W, -⟩ := hT
    exact ⟨_, _, by rw [e]; exact W.2.2.2.2.2.2.1.2.1⟩
  · obtain ⟨k, g, hk⟩ := h a ha
    exact ⟨k, g, (fr.2 a k g hk e).trans hk⟩
noncomputable def twT (f : Int → Int) (p most : Int) : Int := tT (f 0) (f 3) (f 2) (twF f p) most (moF f (1 - p)) (bZ (p = f 5))
theorem twT_b (f : Int → Int) (p m : Int) : 0 ≤ twT f p m ∧ twT f p m ≤ 9 := tT_b _ _ _ _ _ _ _
noncomputable def foF (f : Int → Int) (p r m : Int) : Int := if ¬ (p = 0 ∨ p = 1) then -1001 else if ¬ (0 ≤ r ∧ r ≤ m) then -1002 else bC (twT f p (moF f p) ≤ r)
noncomputable def plA (f : Int → Int) (p w : Int) : Int := if ¬ (p = 0 ∨ p = 1) then -1001 else if w = 0 then hoF f p else if w = 1 then moF f p else if w = 2 then (if p = 0 then f 9 else f 10) else if w = 3 then (if p = 0 then f 11 else f 12) else if w = 4 then (if p = 0 then f 13 else f 14) else if w = 5 then (if p = 0 then f 15 else f 16) else if w = 6 then (if twT f p (moF f p) < 9 then twT f p (moF f p) else -1006) else -1002
def cnA (f : Int → Int) (n L : Nat) (w : Int) : Int := if 0 ≤ w ∧ w ≤ 3 then f w else if w = 4 then f 4 else if w = 5 then (if ¬ winF f = -1006 then -1006 else f 5) else if w = 6 then f 6 else if w = 7 then winF f else if w = 8 then f 17 else if w = 9 then f 15 + f 16 else if w = 10 then (L : Int) else if w = 11 then (n : Int) else -1002
noncomputable def bbA (f : Int → Int) : Int := if ¬ winF f = -1006 then -1005 else fbF f
noncomputable def baA (f : Int → Int) (b : Int) : Int := if ¬ (0 ≤ b ∧ b ≤ 14) then -1002 else if ¬ (winF f = -1006 ∧ b ≤ moF f (f 5) ∧ 0 ≤ moF f (1 - f 5)) then -1005 else faF f b
noncomputable def ckA (f : Int → Int) : Int := if ¬ winF f = -1006 then -1005 else ckF f
noncomputable def lhG (f : Int → Int) (p : Int) : Nat → Int → Int
  | 0, _ => -1006
  | r + 1, h => if twT f p (h + f 1) < 9 then h else lhG f p r (h + 1)
noncomputable def lhA (f : Int → Int) (p : Int) : Int := if ¬ (p = 0 ∨ p = 1) then -1001 else if ¬ winF f = -1006 then -1005 else lhG f p 7 0
theorem mo_8 {f : Int → Int} (ok : okF f) (p : Int) : f 2 = 1 → moF f p ≤ 8 := fun q => by
  obtain ⟨o0, o1, o2, o3, o4, o5, o7, o9, o10, o12, o13, -⟩ := ok
  have := o13 q
  unfold moF hoF
  split <;> omega
theorem mo_s {f : Int → Int} (ok : okF f) {p : Int} (hp : p = 0 ∨ p = 1) : moF f p + moF f (1 - p) ≤ 16 := by
  have h := mo_sum ok
  rcases hp with rfl | rfl
  · exact h.2
  · have : moF f 1 + moF f 0 ≤ 16 := by omega
    exact this
set_option maxHeartbeats 1000000 in
set_option maxRecDepth 20000 in
theorem c_X9_play {X : Nat → Prop} {S : pS} {A : Nat → Nat} {f f1 f2 : Int → Int} {b0 b1 : Int} {n : Nat} {H : Nat → Int → Int} {tx : Int → Int} {L : Nat} (hX : XS X S A f f1 f2 b0 b1 n H tx L) (ok : okX f f1 f2 b0 b1 n H) (hR : RX X S) : Ct yX9_play cX9_play 4 (Option.some FieldType.int) 9 7 1323 [.ref (A 0)] S (KOR (winF f = -1006) (-1005) (tkF f (fbF f) (faF f (fbF f))) S (fun T => XS X T A (plF f (fbF f) (faF f (fbF f))) f1 f2 b0 b1 (kpN n) (kpH n f H) tx L ∧ frX S T (A 6))) := by
  obtain ⟨G, Z, O, F, mm, tb, W, e0, e1, e2, eH⟩ := id hX
  have hg : IsG S (G 0) (Z 0) (O 0) f := e0 ▸ W.2.2.1.1 0 (by omega)
  obtain ⟨o0, o1, o2, o3, o4, o5, o7, o9, o10, o12, o13, o18⟩ := ok.1
  have hfb := fbF_b ok.1
  have hfa := faF_b ok.1 (fbF f)
  have q3 := moF_b (p := f 5) ok.1
  have q4 := moF_b (p := 1 - f 5) ok.1
  refine Ct.ofJ (by decide +kernel) (Nat.le_of_ble_eq_true rfl) ?_
  refine J_L (L1 := [some (.ref (A 0)), none, none, none]) rfl ?_
  refine J_aload_n (pc1 := 1) rfl (i := 0) rfl dX9_play_0 rfl ?_
  refine J_get (pc1 := 4) (j := 0) inUX9 (ci := 9) rfl (by decide) lf_X9_12 dX9_play_1 rfl W.1 rfl ?_
  refine J_callVI (pc1 := 7) (As := []) gv_X9_115 yv_X2_isOver rfl (c_X2_isOver hg.1 (by omega) (by omega)) dX9_play_4 rfl hg.1 rfl rfl (by omega) (by decide) (by omega) (by omega) (Nat.le_of_ble_eq_true rfl) ?_
  refine J_if_eq (pc1 := 10) (tgt := 14) (bZ_lo _) (bZ_hi _) dX9_play_7 rfl rfl (fun hc1 => ?_) (fun hc1 => ?_)
  · have hw9 : winF f = -1006 := Decidable.not_not.mp (bZ_0 (P := winE (f 0) (f 4) ≠ -1006) (by assumption))
    have hov := win_o hw9
    refine J_aload_n (pc1 := 15) rfl (i := 0) rfl dX9_play_14 rfl ?_
    refine J_callV (pc1 := 18) (As := []) gv_X9_119 yv_X9_timesNow rfl (c_X9_timesNow hX ok (RX_nn hR)) dX9_play_15 rfl W.1 rfl rfl (by omega) (by decide) (by omega) (by omega) (Nat.le_of_ble_eq_true rfl) (fun r1 T1 hT1 => ?_)
    obtain ⟨t1, rfl, hX1, FT1, fr1⟩ := hT1
    obtain ⟨G1, Z1, O1, F1, mm1, tb1, W1, e01, e11, e21, eH1⟩ := id hX1
    have hg1 : IsG T1 (G1 0) (Z1 0) (O1 0) f := e01 ▸ W1.2.2.1.1 0 (by omega)
    obtain ⟨ow, fo, tm, w9, n9, tg9, TT, aT, -⟩ := id FT1
    refine J_st (st1 := [.ref t1]) rfl ?_
    refine J_astore_n (pc1 := 19) (L1 := [some (.ref (A 0)), some (.ref t1), none, none]) rfl (i := 1) dX9_play_18 rfl (by decide) rfl rfl ?_
    refine J_aload_n (pc1 := 20) rfl (i := 0) rfl dX9_play_19 rfl ?_
    refine J_get (pc1 := 23) (j := 6) inUX9 (ci := 9) rfl (by decide) lf_X9_52 dX9_play_20 rfl W1.1 rfl ?_
    refine J_aload_n (pc1 := 24) rfl (i := 1) rfl dX9_play_23 rfl ?_
    refine J_callVI (pc1 := 27) (As := [.ref t1]) gv_X9_123 yv_X0_findBid rfl (c_X0_findBid W1.2.2.2.2.2.2.2.2.1 hg1 ok.1 TT aT rfl hov) dX9_play_24 rfl W1.2.2.2.2.2.2.2.2.1 rfl rfl (by omega) (by decide) (by omega) (by omega) (Nat.le_of_ble_eq_true rfl) ?_
    refine J_istore_n (pc1 := 28) (L1 := [some (.ref (A 0)), some (.ref t1), some (.int (iI (fbF f))), none]) rfl (i := 2) dX9_play_27 rfl (by decide) rfl rfl ?_
    refine J_aload_n (pc1 := 29) rfl (i := 0) rfl dX9_play_28 rfl ?_
    refine J_get (pc1 := 32) (j := 6) inUX9 (ci := 9) rfl (by decide) lf_X9_52 dX9_play_29 rfl W1.1 rfl ?_
    refine J_aload_n (pc1 := 33) rfl (i := 1) rfl dX9_play_32 rfl ?_
    refine J_iload_n (pc1 := 34) rfl (i := 2) rfl dX9_play_33 rfl ?_
    refine J_callVI (pc1 := 37) (As := [.ref t1, .int (iI (fbF f))]) gv_X9_127 yv_X0_findAnswer rfl (c_X0_findAnswer W1.2.2.2.2.2.2.2.2.1 hg1 ok.1 TT aT rfl hov (b := fbF f) (by omega)) dX9_play_34 rfl W1.2.2.2.2.2.2.2.2.1 rfl rfl (by omega) (by decide) (by omega) (by omega) (Nat.le_of_ble_eq_true rfl) ?_
    refine J_istore_n (pc1 := 38) (L1 := [some (.ref (A 0)), some (.ref t1), some (.int (iI (fbF f))), some (.int (iI (faF f (fbF f))))]) rfl (i := 3) dX9_play_37 rfl (by decide) rfl rfl ?_
    refine J_aload_n (pc1 := 39) rfl (i := 0) rfl dX9_play_38 rfl ?_
    refine J_get (pc1 := 42) (j := 1) inUX9 (ci := 9) rfl (by decide) lf_X9_19 dX9_play_39 rfl W1.1 rfl ?_
    refine J_aload_n (pc1 := 43) rfl (i := 0) rfl dX9_play_42 rfl ?_
    refine J_get (pc1 := 46) (j := 0) inUX9 (ci := 9) rfl (by decide) lf_X9_12 dX9_play_43 rfl W1.1 rfl ?_
    refine J_callVNs (pc1 := 49) (As := [.ref (G1 0)]) gv_X9_77 yv_X3_keepState rfl (c_X3_keepState W1.2.1 W1.2.2.1) dX9_play_46 rfl W1.2.1.1 rfl rfl (by omega) (by decide) (by omega) (by omega) (Nat.le_of_ble_eq_true rfl) (fun T2 hK2 => ?_)
    obtain ⟨hX2, fr2⟩ := XS_keep W1 e01 e11 e21 eH1 hK2
    obtain ⟨G2, Z2, O2, F2, mm2, tb2, W2, e02, e12, e22, eH2⟩ := id hX2
    have hg2 : IsG T2 (G2 0) (Z2 0) (O2 0) f := e02 ▸ W2.2.2.1.1 0 (by omega)
    refine J_aload_n (pc1 := 50) rfl (i := 0) rfl dX9_play_49 rfl ?_
    refine J_get (pc1 := 53) (j := 0) inUX9 (ci := 9) rfl (by decide) lf_X9_12 dX9_play_50 rfl W2.1 rfl ?_
    refine J_iload_n (pc1 := 54) rfl (i := 2) rfl dX9_play_53 rfl ?_
    refine J_iload_n (pc1 := 55) rfl (i := 3) rfl dX9_play_54 rfl ?_
    refine J_callVIs (pc1 := 58) (As := [.int (iI (fbF f)), .int (iI (faF f (fbF f)))]) gv_X9_111 yv_X2_playRound rfl (c_X2_playRound hg2 ok.1 (b := fbF f) (a := faF f (fbF f)) (by omega) (by omega)) dX9_play_55 rfl hg2.1 rfl rfl (by omega) (by decide) (by omega) (by omega) (Nat.le_of_ble_eq_true rfl) (fun T3 hU3 => ?_)
    obtain ⟨hX3, fr3⟩ := XS_ug W2 e12 e22 eH2 hU3
    obtain ⟨G3, Z3, O3, F3, mm3, tb3, W3, e03, e13, e23, eH3⟩ := id hX3
    have hg3 : IsG T3 (G3 0) (Z3 0) (O3 0) (plF f (fbF f) (faF f (fbF f))) := e03 ▸ W3.2.2.1.1 0 (by omega)
    exact J_iret rfl rfl dX9_play_58 (by omega) (by omega) (KOR_1 hw9 rfl ⟨hX3, (frX.tr (frX.tr fr1 fr2) fr3)⟩)
  · refine J_sipush (pc1 := 13) (by decide) dX9_play_10 rfl ?_
    exact J_iret rfl rfl dX9_play_13 (by omega) (by omega) (KOR_0 (fun z => bZ_1 (P := winE (f 0) (f 4) ≠ -1006) (by assumption) z) rfl)
set_option maxHeartbeats 1000000 in
set_option maxRecDepth 20000 in
theorem c_X9_bestBid {X : Nat → Prop} {S : pS} {A : Nat → Nat} {f f1 f2 : Int → Int} {b0 b1 : Int} {n : Nat} {H : Nat → Int → Int} {tx : Int → Int} {L : Nat} (hX : XS X S A f f1 f2 b0 b1 n H tx L) (ok : okX f f1 f2 b0 b1 n H) (hR : RX X S) : Ct yX9_bestBid cX9_bestBid 1 (Option.some FieldType.int) 9 4 1303 [.ref (A 0)] S (kIS (bbA f) (fun T => XS X T A f f1 f2 b0 b1 n H tx L ∧ frX S T (A 6))) := by
  obtain ⟨G, Z, O, F, mm, tb, W, e0, e1, e2, eH⟩ := id hX
  have hg : IsG S (G 0) (Z 0) (O 0) f := e0 ▸ W.2.2.1.1 0 (by omega)
  obtain ⟨o0, o1, o2, o3, o4, o5, o7, o9, o10, o12, o13, o18⟩ := ok.1
  refine Ct.ofJ (by decide +kernel) (Nat.le_of_ble_eq_true rfl) ?_
  refine J_L (L1 := [some (.ref (A 0))]) rfl ?_
  refine J_aload_n (pc1 := 1) rfl (i := 0) rfl dX9_bestBid_0 rfl ?_
  refine J_get (pc1 := 4) (j := 0) inUX9 (ci := 9) rfl (by decide) lf_X9_12 dX9_bestBid_1 rfl W.1 rfl ?_
  refine J_callVI (pc1 := 7) (As := []) gv_X9_115 yv_X2_isOver rfl (c_X2_isOver hg.1 (by omega) (by omega)) dX9_bestBid_4 rfl hg.1 rfl rfl (by omega) (by decide) (by omega) (by omega) (Nat.le_of_ble_eq_true rfl) ?_
  refine J_if_eq (pc1 := 10) (tgt := 14) (bZ_lo _) (bZ_hi _) dX9_bestBid_7 rfl rfl (fun hc1 => ?_) (fun hc1 => ?_)
  · have hw9 : winF f = -1006 := Decidable.not_not.mp (bZ_0 (P := winE (f 0) (f 4) ≠ -1006) (by assumption))
    have hov := win_o hw9
    refine J_aload_n (pc1 := 15) rfl (i := 0) rfl dX9_bestBid_14 rfl ?_
    refine J_get (pc1 := 18) (j := 6) inUX9 (ci := 9) rfl (by decide) lf_X9_52 dX9_bestBid_15 rfl W.1 rfl ?_
    refine J_aload_n (pc1 := 19) rfl (i := 0) rfl dX9_bestBid_18 rfl ?_
    refine J_callV (pc1 := 22) (As := []) gv_X9_119 yv_X9_timesNow rfl (c_X9_timesNow hX ok (RX_nn hR)) dX9_bestBid_19 rfl W.1 rfl rfl (by omega) (by decide) (by omega) (by omega) (Nat.le_of_ble_eq_true rfl) (fun r1 T1 hT1 => ?_)
    obtain ⟨t1, rfl, hX1, FT1, fr1⟩ := hT1
    obtain ⟨G1, Z1, O1, F1, mm1, tb1, W1, e01, e11, e21, eH1⟩ := id hX1
    have hg1 : IsG T1 (G1 0) (Z1 0) (O1 0) f := e01 ▸ W1.2.2.1.1 0 (by omega)
    obtain ⟨ow, fo, tm, w9, n9, tg9, TT, aT, -⟩ := id FT1
    refine J_st (st1 := [.ref t1, .ref (A 9)]) rfl ?_
    refine J_callVI (pc1 := 25) (As := [.ref t1]) gv_X9_123 yv_X0_findBid rfl (c_X0_findBid W1.2.2.2.2.2.2.2.2.1 hg1 ok.1 TT aT rfl hov) dX9_bestBid_22 rfl W1.2.2.2.2.2.2.2.2.1 rfl rfl (by omega) (by decide) (by omega) (by omega) (Nat.le_of_ble_eq_true rfl) ?_
    exact J_iret rfl rfl dX9_bestBid_25 (by omega) (by omega) (kIS_mk (by unfold bbA; rw [if_neg (not_not_intro hw9)]) ⟨hX1, fr1⟩)
  · refine J_sipush (pc1 := 13) (by decide) dX9_bestBid_10 rfl ?_
    exact J_iret rfl rfl dX9_bestBid_13 (by omega) (by omega) (kIS_mk (by unfold bbA; rw [if_pos (bZ_1 (P := winE (f 0) (f 4) ≠ -1006) (by assumption))]) ⟨hX, frX.rf⟩)
set_option maxHeartbeats 1000000 in
set_option maxRecDepth 20000 in
theorem c_X9_keeps {X : Nat → Prop} {S : pS} {A : Nat → Nat} {f f1 f2 : Int → Int} {b0 b1 : Int} {n : Nat} {H : Nat → Int → Int} {tx : Int → Int} {L : Nat} (hX : XS X S A f f1 f2 b0 b1 n H tx L) (ok : okX f f1 f2 b0 b1 n H) (hR : RX X S) : Ct yX9_keeps cX9_keeps 1 (Option.some FieldType.int) 9 4 1303 [.ref (A 0)] S (kIS (ckA f) (fun T => XS X T A f f1 f2 b0 b1 n H tx L ∧ frX S T (A 6))) := by
  obtain ⟨G, Z, O, F, mm, tb, W, e0, e1, e2, eH⟩ := id hX
  have hg : IsG S (G 0) (Z 0) (O 0) f := e0 ▸ W.2.2.1.1 0 (by omega)
  obtain ⟨o0, o1, o2, o3, o4, o5, o7, o9, o10, o12, o13, o18⟩ := ok.1
  refine Ct.ofJ (by decide +kernel) (Nat.le_of_ble_eq_true rfl) ?_
  refine J_L (L1 := [some (.ref (A 0))]) rfl ?_
  refine J_aload_n (pc1 := 1) rfl (i := 0) rfl dX9_keeps_0 rfl ?_
  refine J_get (pc1 := 4) (j := 0) inUX9 (ci := 9) rfl (by decide) lf_X9_12 dX9_keeps_1 rfl W.1 rfl ?_
  refine J_callVI (pc1 := 7) (As := []) gv_X9_115 yv_X2_isOver rfl (c_X2_isOver hg.1 (by omega) (by omega)) dX9_keeps_4 rfl hg.1 rfl rfl (by omega) (by decide) (by omega) (by omega) (Nat.le_of_ble_eq_true rfl) ?_
  refine J_if_eq (pc1 := 10) (tgt := 14) (bZ_lo _) (bZ_hi _) dX9_keeps_7 rfl rfl (fun hc1 => ?_) (fun hc1 => ?_)
  · have hw9 : winF f = -1006 := Decidable.not_not.mp (bZ_0 (P := winE (f 0) (f 4) ≠ -1006) (by assumption))
    have hov := win_o hw9
    refine J_aload_n (pc1 := 15) rfl (i := 0) rfl dX9_keeps_14 rfl ?_
    refine J_get (pc1 := 18) (j := 6) inUX9 (ci := 9) rfl (by decide) lf_X9_52 dX9_keeps_15 rfl W.1 rfl ?_
    refine J_aload_n (pc1 := 19) rfl (i := 0) rfl dX9_keeps_18 rfl ?_
    refine J_callV (pc1 := 22) (As := []) gv_X9_119 yv_X9_timesNow rfl (c_X9_timesNow hX ok (RX_nn hR)) dX9_keeps_19 rfl W.1 rfl rfl (by omega) (by decide) (by omega) (by omega) (Nat.le_of_ble_eq_true rfl) (fun r1 T1 hT1 => ?_)
    obtain ⟨t1, rfl, hX1, FT1, fr1⟩ := hT1
    obtain ⟨G1, Z1, O1, F1, mm1, tb1, W1, e01, e11, e21, eH1⟩ := id hX1
    have hg1 : IsG T1 (G1 0) (Z1 0) (O1 0) f := e01 ▸ W1.2.2.1.1 0 (by omega)
    obtain ⟨ow, fo, tm, w9, n9, tg9, TT, aT, -⟩ := id FT1
    refine J_st (st1 := [.ref t1, .ref (A 9)]) rfl ?_
    refine J_callVI (pc1 := 25) (As := [.ref t1]) gv_X9_187 yv_X0_countKeeping rfl (c_X0_countKeeping W1.2.2.2.2.2.2.2.2.1 hg1 ok.1 TT aT rfl hov) dX9_keeps_22 rfl W1.2.2.2.2.2.2.2.2.1 rfl rfl (by omega) (by decide) (by omega) (by omega) (Nat.le_of_ble_eq_true rfl) ?_
    exact J_iret rfl rfl dX9_keeps_25 (by omega) (by omega) (kIS_mk (by unfold ckA; rw [if_neg (not_not_intro hw9)]) ⟨hX1, fr1⟩)
  · refine J_sipush (pc1 := 13) (by decide) dX9_keeps_10 rfl ?_
    exact J_iret rfl rfl dX9_keeps_13 (by omega) (by omega) (kIS_mk (by unfold ckA; rw [if_pos (bZ_1 (P := winE (f 0) (f 4) ≠ -1006) (by assumption))]) ⟨hX, frX.rf⟩)
set_option maxHeartbeats 1000000 in
set_option maxRecDepth 20000 in
theorem c_X9_bestAnswer {X : Nat → Prop} {S : pS} {A : Nat → Nat} {f f1 f2 : Int → Int} {b0 b1 : Int} {n : Nat} {H : Nat → Int → Int} {tx : Int → Int} {L : Nat} (hX : XS X S A f f1 f2 b0 b1 n H tx L) (ok : okX f f1 f2 b0 b1 n H) {b : Int} (hb : -2147483648 ≤ b ∧ b < 2147483648) (hR : RX X S) : Ct yX9_bestAnswer cX9_bestAnswer 2 (Option.some FieldType.int) 9 4 1303 [.ref (A 0), .int (iI b)] S (kIS (baA f b) (fun T => XS X T A f f1 f2 b0 b1 n H tx L ∧ frX S T (A 6))) := by
  obtain ⟨G, Z, O, F, mm, tb, W, e0, e1, e2, eH⟩ := id hX
  have hg : IsG S (G 0) (Z 0) (O 0) f := e0 ▸ W.2.2.1.1 0 (by omega)
  obtain ⟨o0, o1, o2, o3, o4, o5, o7, o9, o10, o12, o13, o18⟩ := ok.1
  refine Ct.ofJ (by decide +kernel) (Nat.le_of_ble_eq_true rfl) ?_
  refine J_L (L1 := [some (.ref (A 0)), some (.int (iI b))]) rfl ?_
  refine J_iload_n (pc1 := 1) rfl (i := 1) rfl dX9_bestAnswer_0 rfl ?_
  refine J_iconst (pc1 := 2) dX9_bestAnswer_1 rfl ?_
  refine J_bipush (pc1 := 4) (by decide) dX9_bestAnswer_2 rfl ?_
  refine J_callSI (pc1 := 7) (As := [.int (iI b), .int (iI 0), .int (iI 14)]) gs_X9_87 yv_X9_isBetween (c_X9_isBetween (v := b) (a := 0) (b := 14) (by omega) (by omega) (by omega)) dX9_bestAnswer_4 rfl rfl rfl (by omega) (by decide) (by omega) (by omega) (Nat.le_of_ble_eq_true rfl) ?_
  refine J_if_ne (pc1 := 10) (tgt := 14) (bC_lo _) (bC_hi _) dX9_bestAnswer_7 rfl rfl (fun hc1 => ?_) (fun hc1 => ?_)
  · have hb14 : 0 ≤ b ∧ b ≤ 14 := bC_1 (by assumption)
    refine J_aload_n (pc1 := 15) rfl (i := 0) rfl dX9_bestAnswer_14 rfl ?_
    refine J_get (pc1 := 18) (j := 0) inUX9 (ci := 9) rfl (by decide) lf_X9_12 dX9_bestAnswer_15 rfl W.1 rfl ?_
    refine J_iload_n (pc1 := 19) rfl (i := 1) rfl dX9_bestAnswer_18 rfl ?_
    refine J_iconst (pc1 := 20) dX9_bestAnswer_19 rfl ?_
    refine J_callVI (pc1 := 23) (As := [.int (iI b), .int (iI 0)]) gv_X9_107 yv_X2_allows rfl (c_X2_allows hg ok.1 (b := b) (a := 0) (by omega) (by omega)) dX9_bestAnswer_20 rfl hg.1 rfl rfl (by omega) (by decide) (by omega) (by omega) (Nat.le_of_ble_eq_true rfl) ?_
    refine J_if_ne (pc1 := 26) (tgt := 30) (bZ_lo _) (bZ_hi _) dX9_bestAnswer_23 rfl rfl (fun hc2 => ?_) (fun hc2 => ?_)
    · have hal := bZ_1 (P := winF f = -1006 ∧ b ≤ moF f (f 5) ∧ 0 ≤ moF f (1 - f 5)) (by assumption)
      have hov := win_o hal.1
      have hb2 := hal.2.1
      refine J_aload_n (pc1 := 31) rfl (i := 0) rfl dX9_bestAnswer_30 rfl ?_
      refine J_get (pc1 := 34) (j := 6) inUX9 (ci := 9) rfl (by decide) lf_X9_52 dX9_bestAnswer_31 rfl W.1 rfl ?_
      refine J_aload_n (pc1 := 35) rfl (i := 0) rfl dX9_bestAnswer_34 rfl ?_
      refine J_callV (pc1 := 38) (As := []) gv_X9_119 yv_X9_timesNow rfl (c_X9_timesNow hX ok (RX_nn hR)) dX9_bestAnswer_35 rfl W.1 rfl rfl (by omega) (by decide) (by omega) (by omega) (Nat.le_of_ble_eq_true rfl) (fun r1 T1 hT1 => ?_)
      obtain ⟨t1, rfl, hX1, FT1, fr1⟩ := hT1
      obtain ⟨G1, Z1, O1, F1, mm1, tb1, W1, e01, e11, e21, eH1⟩ := id hX1
      have hg1 : IsG T1 (G1 0) (Z1 0) (O1 0) f := e01 ▸ W1.2.2.1.1 0 (by omega)
      obtain ⟨ow, fo, tm, w9, n9, tg9, TT, aT, -⟩ := id FT1
      refine J_st (st1 := [.ref t1, .ref (A 9)]) rfl ?_
      refine J_iload_n (pc1 := 39) rfl (i := 1) rfl dX9_bestAnswer_38 rfl ?_
      refine J_callVI (pc1 := 42) (As := [.ref t1, .int (iI b)]) gv_X9_127 yv_X0_findAnswer rfl (c_X0_findAnswer W1.2.2.2.2.2.2.2.2.1 hg1 ok.1 TT aT rfl hov (b := b) (by omega)) dX9_bestAnswer_39 rfl W1.2.2.2.2.2.2.2.2.1 rfl rfl (by omega) (by decide) (by omega) (by omega) (Nat.le_of_ble_eq_true rfl) ?_
      exact J_iret rfl rfl dX9_bestAnswer_42 (by omega) (by omega) (kIS_mk (by unfold baA; rw [if_neg (not_not_intro hb14), if_neg (not_not_intro hal)]) ⟨hX1, fr1⟩)
    · refine J_sipush (pc1 := 29) (by decide) dX9_bestAnswer_26 rfl ?_
      exact J_iret rfl rfl dX9_bestAnswer_29 (by omega) (by omega) (kIS_mk (by unfold baA; rw [if_neg (not_not_intro hb14), if_pos (bZ_0 (P := winF f = -1006 ∧ b ≤ moF f (f 5) ∧ 0 ≤ moF f (1 - f 5)) (by assumption))]) ⟨hX, frX.rf⟩)
  · refine J_sipush (pc1 := 13) (by decide) dX9_bestAnswer_10 rfl ?_
    exact J_iret rfl rfl dX9_bestAnswer_13 (by omega) (by omega) (kIS_mk (by unfold baA; rw [if_pos (bC_0 (by assumption))]) ⟨hX, frX.rf⟩)
set_option maxHeartbeats 1000000 in
set_option maxRecDepth 20000 in
theorem c_X9_forced {X : Nat → Prop} {S : pS} {A : Nat → Nat} {f f1 f2 : Int → Int} {b0 b1 : Int} {n : Nat} {H : Nat → Int → Int} {tx : Int → Int} {L : Nat} (hX : XS X S A f f1 f2 b0 b1 n H tx L) (ok : okX f f1 f2 b0 b1 n H) {p r : Int} (hp : -2147483648 ≤ p ∧ p < 2147483648) (hr : -2147483648 ≤ r ∧ r < 2147483648) (hR : RX X S) : Ct yX9_forced cX9_forced 3 (Option.some FieldType.int) 8 4 1303 [.ref (A 0), .int (iI p), .int (iI r)] S (kIS (foF f p r 8) (fun T => XS X T A f f1 f2 b0 b1 n H tx L ∧ frX S T (A 6))) := by
  obtain ⟨G, Z, O, F, mm, tb, W, e0, e1, e2, eH⟩ := id hX
  have hg : IsG S (G 0) (Z 0) (O 0) f := e0 ▸ W.2.2.1.1 0 (by omega)
  have m8 := mo_8 ok.1 p
  have q3 := moF_b (p := p) ok.1
  have q4 := moF_b (p := 1 - p) ok.1
  refine Ct.ofJ (by decide +kernel) (Nat.le_of_ble_eq_true rfl) ?_
  refine J_L (L1 := [some (.ref (A 0)), some (.int (iI p)), some (.int (iI r))]) rfl ?_
  refine J_iload_n (pc1 := 1) rfl (i := 1) rfl dX9_forced_0 rfl ?_
  refine J_callSI (pc1 := 4) (As := [.int (iI p)]) gs_X9_141 yv_X9_isPlayer (c_X9_isPlayer (v := p) (by omega)) dX9_forced_1 rfl rfl rfl (by omega) (by decide) (by omega) (by omega) (Nat.le_of_ble_eq_true rfl) ?_
  refine J_if_ne (pc1 := 7) (tgt := 11) (bC_lo _) (bC_hi _) dX9_forced_4 rfl rfl (fun hc1 => ?_) (fun hc1 => ?_)
  · have hp01 : p = 0 ∨ p = 1 := bC_1 (by assumption)
    have ms16 := mo_s ok.1 hp01
    refine J_iload_n (pc1 := 12) rfl (i := 2) rfl dX9_forced_11 rfl ?_
    refine J_iconst (pc1 := 13) dX9_forced_12 rfl ?_
    refine J_bipush (pc1 := 15) (by decide) dX9_forced_13 rfl ?_
    refine J_callSI (pc1 := 18) (As := [.int (iI r), .int (iI 0), .int (iI 8)]) gs_X9_87 yv_X9_isBetween (c_X9_isBetween (v := r) (a := 0) (b := 8) (by omega) (by omega) (by omega)) dX9_forced_15 rfl rfl rfl (by omega) (by decide) (by omega) (by omega) (Nat.le_of_ble_eq_true rfl) ?_
    refine J_if_ne (pc1 := 21) (tgt := 25) (bC_lo _) (bC_hi _) dX9_forced_18 rfl rfl (fun hc2 => ?_) (fun hc2 => ?_)
    · have hr08 : 0 ≤ r ∧ r ≤ 8 := bC_1 (by assumption)
      refine J_aload_n (pc1 := 26) rfl (i := 0) rfl dX9_forced_25 rfl ?_
      refine J_iload_n (pc1 := 27) rfl (i := 1) rfl dX9_forced_26 rfl ?_
      refine J_aload_n (pc1 := 28) rfl (i := 0) rfl dX9_forced_27 rfl ?_
      refine J_get (pc1 := 31) (j := 0) inUX9 (ci := 9) rfl (by decide) lf_X9_12 dX9_forced_28 rfl W.1 rfl ?_
      refine J_iload_n (pc1 := 32) rfl (i := 1) rfl dX9_forced_31 rfl ?_
      refine J_callVI (pc1 := 35) (As := [.int (iI p)]) gv_X9_151 yv_X2_mostOf rfl (c_X2_mostOf hg (p := p) (by omega)) dX9_forced_32 rfl hg.1 rfl rfl (by omega) (by decide) (by omega) (by omega) (Nat.le_of_ble_eq_true rfl) ?_
      refine J_callVIs (pc1 := 38) (As := [.int (iI p), .int (iI (moF f p))]) gv_X9_163 yv_X9_timeWith rfl (c_X9_timeWith hX ok (RX_nn hR) (p := p) (most := moF f p) hp01 (by omega) (by omega) (by omega)) dX9_forced_35 rfl W.1 rfl rfl (by omega) (by decide) (by omega) (by omega) (Nat.le_of_ble_eq_true rfl) (fun T1 hT1 => ?_)
      obtain ⟨hX1, fr1⟩ := hT1
      obtain ⟨G1, Z1, O1, F1, mm1, tb1, W1, e01, e11, e21, eH1⟩ := id hX1
      have hg1 : IsG T1 (G1 0) (Z1 0) (O1 0) f := e01 ▸ W1.2.2.1.1 0 (by omega)
      have htb := twT_b f p (moF f p)
      unfold twT at htb
      refine J_iload_n (pc1 := 39) rfl (i := 2) rfl dX9_forced_38 rfl ?_
      refine J_icmp_gt (pc1 := 42) (tgt := 46) (by omega) (by omega) (by omega) (by omega) dX9_forced_39 rfl rfl (fun hc3 => ?_) (fun hc3 => ?_)
      · refine J_iconst (pc1 := 47) dX9_forced_46 rfl ?_
        exact J_iret rfl rfl dX9_forced_47 (by omega) (by omega) (kIS_mk (by unfold foF; rw [if_neg (not_not_intro hp01), if_neg (not_not_intro hr08)]; unfold twT; first | exact (bC_t (by omega)).symm | exact (bC_f (by omega)).symm) ⟨hX1, fr1⟩)
      · refine J_iconst (pc1 := 43) dX9_forced_42 rfl ?_
        refine J_goto (tgt := 47) dX9_forced_43 rfl ?_
        exact J_iret rfl rfl dX9_forced_47 (by omega) (by omega) (kIS_mk (by unfold foF; rw [if_neg (not_not_intro hp01), if_neg (not_not_intro hr08)]; unfold twT; first | exact (bC_t (by omega)).symm | exact (bC_f (by omega)).symm) ⟨hX1, fr1⟩)
    · refine J_sipush (pc1 := 24) (by decide) dX9_forced_21 rfl ?_
      exact J_iret rfl rfl dX9_forced_24 (by omega) (by omega) (kIS_mk (by unfold foF; rw [if_neg (not_not_intro hp01), if_pos (bC_0 (by assumption))]) ⟨hX, frX.rf⟩)
  · refine J_sipush (pc1 := 10) (by decide) dX9_forced_7 rfl ?_
    exact J_iret rfl rfl dX9_forced_10 (by omega) (by omega) (kIS_mk (by unfold foF; rw [if_pos (bC_0 (by assumption))]) ⟨hX, frX.rf⟩)
set_option maxHeartbeats 1000000 in
set_option maxRecDepth 20000 in
theorem c_X9_ahead {X : Nat → Prop} {S : pS} {A : Nat → Nat} {f f1 f2 : Int → Int} {b0 b1 : Int} {n : Nat} {H : Nat → Int → Int} {tx : Int → Int} {L : Nat} (hX : XS X S A f f1 f2 b0 b1 n H tx L) (ok : okX f f1 f2 b0 b1 n H) {p r : Int} (hp : -2147483648 ≤ p ∧ p < 2147483648) (hr : -2147483648 ≤ r ∧ r < 2147483648) : Ct yX9_ahead cX9_ahead 3 (Option.some FieldType.int) 15 0 0 [.ref (A 0), .int (iI p), .int (iI r)] S (kIS (foF f p r 3) (fun T => XS X T A f f1 f2 b0 b1 n H tx L ∧ frX S T (A 6))) := by
  obtain ⟨G, Z, O, F, mm, tb, W, e0, e1, e2, eH⟩ := id hX
  have hg : IsG S (G 0) (Z 0) (O 0) f := e0 ▸ W.2.2.1.1 0 (by omega)
  have m8 := mo_8 ok.1 p
  have q3 := moF_b (p := p) ok.1
  have q4 := moF_b (p := 1 - p) ok.1
  refine Ct.ofJ (by decide +kernel) (Nat.le_of_ble_eq_true rfl) ?_
  refine J_L (L1 := [some (.ref (A 0)), some (.int (iI p)), some (.int (iI r))]) rfl ?_
  refine J_iload_n (pc1 := 1) rfl (i := 1) rfl dX9_ahead_0 rfl ?_
  refine J_callSI (pc1 := 4) (As := [.int (iI p)]) gs_X9_141 yv_X9_isPlayer (c_X9_isPlayer (v := p) (by omega)) dX9_ahead_1 rfl rfl rfl (by omega) (by decide) (by omega) (by omega) (Nat.le_of_ble_eq_true rfl) ?_
  refine J_if_ne (pc1 := 7) (tgt := 11) (bC_lo _) (bC_hi _) dX9_ahead_4 rfl rfl (fun hc1 => ?_) (fun hc1 => ?_)
  · have hp01 : p = 0 ∨ p = 1 := bC_1 (by assumption)
    have ms16 := mo_s ok.1 hp01
    refine J_iload_n (pc1 := 12) rfl (i := 2) rfl dX9_ahead_11 rfl ?_
    refine J_iconst (pc1 := 13) dX9_ahead_12 rfl ?_
    refine J_iconst (pc1 := 14) dX9_ahead_13 rfl ?_
    refine J_callSI (pc1 := 17) (As := [.int (iI r), .int (iI 0), .int (iI 3)]) gs_X9_87 yv_X9_isBetween (c_X9_isBetween (v := r) (a := 0) (b := 3) (by omega) (by omega) (by omega)) dX9_ahead_14 rfl rfl rfl (by omega) (by decide) (by omega) (by omega) (Nat.le_of_ble_eq_true rfl) ?_
    refine J_if_ne (pc1 := 20) (tgt := 24) (bC_lo _) (bC_hi _) dX9_ahead_17 rfl rfl (fun hc2 => ?_) (fun hc2 => ?_)
    · have hr03 : 0 ≤ r ∧ r ≤ 3 := bC_1 (by assumption)
      have hfc : twT f p (moF f p) ≤ r ↔ fc (f 0) (f 3) (f 2) r.toNat (twF f p) (moF f p) (moF f (1 - p)) (bZ (p = f 5)) := by
        have := tT_le (f 0) (f 3) (f 2) (twF f p) (moF f p) (moF f (1 - p)) (bZ (p = f 5)) (j := r.toNat) (by omega)
        rw [← this]
        unfold twT
        omega
      refine J_aload_n (pc1 := 25) rfl (i := 0) rfl dX9_ahead_24 rfl ?_
      refine J_get (pc1 := 28) (j := 7) inUX9 (ci := 9) rfl (by decide) lf_X9_59 dX9_ahead_25 rfl W.1 rfl ?_
      refine J_iload_n (pc1 := 29) rfl (i := 1) rfl dX9_ahead_28 rfl ?_
      refine J_iload_n (pc1 := 30) rfl (i := 2) rfl dX9_ahead_29 rfl ?_
      refine J_callVI (pc1 := 33) (As := [.int (iI p), .int (iI r)]) gv_X9_184 yv_X1_seesWinOf rfl (c_X1_seesWinOf W.2.2.2.2.2.2.2.2.2 hg ok.1 hp01 hr03) dX9_ahead_30 rfl W.2.2.2.2.2.2.2.2.2 rfl rfl (by omega) (by decide) (by omega) (by omega) (Nat.le_of_ble_eq_true rfl) ?_
      refine J_if_eq (pc1 := 36) (tgt := 40) (bC_lo _) (bC_hi _) dX9_ahead_33 rfl rfl (fun hc3 => ?_) (fun hc3 => ?_)
      · refine J_iconst (pc1 := 41) dX9_ahead_40 rfl ?_
        exact J_iret rfl rfl dX9_ahead_41 (by omega) (by omega) (kIS_mk (by unfold foF; rw [if_neg (not_not_intro hp01), if_neg (not_not_intro hr03), bC_c hfc]; first | exact (bC_t (bC_1 (by assumption))).symm | exact (bC_f (bC_0 (by assumption))).symm) ⟨hX, frX.rf⟩)
      · refine J_iconst (pc1 := 37) dX9_ahead_36 rfl ?_
        refine J_goto (tgt := 41) dX9_ahead_37 rfl ?_
        exact J_iret rfl rfl dX9_ahead_41 (by omega) (by omega) (kIS_mk (by unfold foF; rw [if_neg (not_not_intro hp01), if_neg (not_not_intro hr03), bC_c hfc]; first | exact (bC_t (bC_1 (by assumption))).symm | exact (bC_f (bC_0 (by assumption))).symm) ⟨hX, frX.rf⟩)
    · refine J_sipush (pc1 := 23) (by decide) dX9_ahead_20 rfl ?_
      exact J_iret rfl rfl dX9_ahead_23 (by omega) (by omega) (kIS_mk (by unfold foF; rw [if_neg (not_not_intro hp01), if_pos (bC_0 (by assumption))]) ⟨hX, frX.rf⟩)
  · refine J_sipush (pc1 := 10) (by decide) dX9_ahead_7 rfl ?_
    exact J_iret rfl rfl dX9_ahead_10 (by omega) (by omega) (kIS_mk (by unfold foF; rw [if_pos (bC_0 (by assumption))]) ⟨hX, frX.rf⟩)
set_option maxHeartbeats 1000000 in
set_option maxRecDepth 20000 in
theorem c_X9_player0 {X : Nat → Prop} {S : pS} {A : Nat → Nat} {f f1 f2 : Int → Int} {b0 b1 : Int} {n : Nat} {H : Nat → Int → Int} {tx : Int → Int} {L : Nat} (hX : XS X S A f f1 f2 b0 b1 n H tx L) (ok : okX f f1 f2 b0 b1 n H) {w : Int} (hw : -2147483648 ≤ w ∧ w < 2147483648) (hR : RX X S) : Ct yX9_player cX9_player 5 (Option.some FieldType.int) 8 4 1303 [.ref (A 0), .int (iI 0), .int (iI w)] S (kIS (plA f 0 w) (fun T => XS X T A f f1 f2 b0 b1 n H tx L ∧ frX S T (A 6))) := by
  obtain ⟨G, Z, O, F, mm, tb, W, e0, e1, e2, eH⟩ := id hX
  have hg : IsG S (G 0) (Z 0) (O 0) f := e0 ▸ W.2.2.1.1 0 (by omega)
  have hp01 : (0 : Int) = 0 ∨ (0 : Int) = 1 := by decide
  have m8 := mo_8 ok.1 0
  have q3 := moF_b (p := 0) ok.1
  have q4 := moF_b (p := 1 - 0) ok.1
  have ms16 := mo_s ok.1 hp01
  refine Ct.ofJ (by decide +kernel) (Nat.le_of_ble_eq_true rfl) ?_
  refine J_L (L1 := [some (.ref (A 0)), some (.int (iI 0)), some (.int (iI w)), none, none]) rfl ?_
  refine J_iload_n (pc1 := 1) rfl (i := 1) rfl dX9_player_0 rfl ?_
  refine J_callSI (pc1 := 4) (As := [.int (iI 0)]) gs_X9_141 yv_X9_isPlayer (c_X9_isPlayer (v := 0) (by decide)) dX9_player_1 rfl rfl rfl (by omega) (by decide) (by omega) (by omega) (Nat.le_of_ble_eq_true rfl) ?_
  refine J_if_ne (pc1 := 7) (tgt := 11) (bC_lo _) (bC_hi _) dX9_player_4 rfl rfl (fun hc1 => ?_) (fun hc1 => ?_)
  · refine J_aload_n (pc1 := 12) rfl (i := 0) rfl dX9_player_11 rfl ?_
    refine J_get (pc1 := 15) (j := 0) inUX9 (ci := 9) rfl (by decide) lf_X9_12 dX9_player_12 rfl W.1 rfl ?_
    refine J_iload_n (pc1 := 16) rfl (i := 1) rfl dX9_player_15 rfl ?_
    refine J_callVF (pc1 := 19) (As := [.int (iI 0)]) gv_X9_144 yv_X2_sideOf rfl (c_X2_sideOf0 hg.1) dX9_player_16 rfl hg.1 rfl rfl (by omega) (by decide) (by omega) (by omega) (Nat.le_of_ble_eq_true rfl) ?_
    refine J_astore_n (pc1 := 20) (L1 := [some (.ref (A 0)), some (.int (iI 0)), some (.int (iI w)), some (.ref (Z 0)), none]) rfl (i := 3) dX9_player_19 rfl (by decide) rfl rfl ?_
    refine J_iload_n (pc1 := 21) rfl (i := 2) rfl dX9_player_20 rfl ?_
    rcases (show w = 0 ∨ w = 1 ∨ w = 2 ∨ w = 3 ∨ w = 4 ∨ w = 5 ∨ w = 6 ∨ (w < 0 ∨ 6 < w) by omega) with hs2 | hs2 | hs2 | hs2 | hs2 | hs2 | hs2 | hs2
    · refine J_tableIn (tgt := 64) (by omega) (by omega) dX9_player_21 (by omega) (by omega) (by rw [hs2]; rfl) rfl ?_
      refine J_aload_n (pc1 := 65) rfl (i := 3) rfl dX9_player_64 rfl ?_
      refine J_get (pc1 := 68) (j := 1) inUX6 (ci := 6) rfl (by decide) lf_X9_148 dX9_player_65 rfl hg.2.1 rfl ?_
      exact J_iret rfl rfl dX9_player_68 (by omega) (by omega) (kIS_mk (by unfold plA; rw [if_neg (not_not_intro hp01), if_pos (by omega)]; try rfl) ⟨hX, frX.rf⟩)
    · refine J_tableIn (tgt := 69) (by omega) (by omega) dX9_player_21 (by omega) (by omega) (by rw [hs2]; rfl) rfl ?_
      refine J_aload_n (pc1 := 70) rfl (i := 0) rfl dX9_player_69 rfl ?_
      refine J_get (pc1 := 73) (j := 0) inUX9 (ci := 9) rfl (by decide) lf_X9_12 dX9_player_70 rfl W.1 rfl ?_
      refine J_iload_n (pc1 := 74) rfl (i := 1) rfl dX9_player_73 rfl ?_
      refine J_callVI (pc1 := 77) (As := [.int (iI 0)]) gv_X9_151 yv_X2_mostOf rfl (c_X2_mostOf hg (p := 0) (by omega)) dX9_player_74 rfl hg.1 rfl rfl (by omega) (by decide) (by omega) (by omega) (Nat.le_of_ble_eq_true rfl) ?_
      exact J_iret rfl rfl dX9_player_77 (by omega) (by omega) (kIS_mk (by unfold plA; rw [if_neg (not_not_intro hp01), if_neg (by omega), if_pos (by omega)]; try rfl) ⟨hX, frX.rf⟩)
    · refine J_tableIn (tgt := 78) (by omega) (by omega) dX9_player_21 (by omega) (by omega) (by rw [hs2]; rfl) rfl ?_
      refine J_aload_n (pc1 := 79) rfl (i := 3) rfl dX9_player_78 rfl ?_
      refine J_get (pc1 := 82) (j := 0) inUX6 (ci := 6) rfl (by decide) lf_X9_99 dX9_player_79 rfl hg.2.1 rfl ?_
      exact J_iret rfl rfl dX9_player_82 (by omega) (by omega) (kIS_mk (by unfold plA; rw [if_neg (not_not_intro hp01), if_neg (by omega), if_neg (by omega), if_pos (by omega)]; try rfl) ⟨hX, frX.rf⟩)
    · refine J_tableIn (tgt := 83) (by omega) (by omega) dX9_player_21 (by omega) (by omega) (by rw [hs2]; rfl) rfl ?_
      refine J_aload_n (pc1 := 84) rfl (i := 3) rfl dX9_player_83 rfl ?_
      refine J_get (pc1 := 87) (j := 2) inUX6 (ci := 6) rfl (by decide) lf_X9_154 dX9_player_84 rfl hg.2.1 rfl ?_
      exact J_iret rfl rfl dX9_player_87 (by omega) (by omega) (kIS_mk (by unfold plA; rw [if_neg (not_not_intro hp01), if_neg (by omega), if_neg (by omega), if_neg (by omega), if_pos (by omega)]; try rfl) ⟨hX, frX.rf⟩)
    · refine J_tableIn (tgt := 88) (by omega) (by omega) dX9_player_21 (by omega) (by omega) (by rw [hs2]; rfl) rfl ?_
      refine J_aload_n (pc1 := 89) rfl (i := 3) rfl dX9_player_88 rfl ?_
      refine J_get (pc1 := 92) (j := 3) inUX6 (ci := 6) rfl (by decide) lf_X9_157 dX9_player_89 rfl hg.2.1 rfl ?_
      exact J_iret rfl rfl dX9_player_92 (by omega) (by omega) (kIS_mk (by unfold plA; rw [if_neg (not_not_intro hp01), if_neg (by omega), if_neg (by omega), if_neg (by omega), if_neg (by omega), if_pos (by omega)]; try rfl) ⟨hX, frX.rf⟩)
    · refine J_tableIn (tgt := 93) (by omega) (by omega) dX9_player_21 (by omega) (by omega) (by rw [hs2]; rfl) rfl ?_
      refine J_aload_n (pc1 := 94) rfl (i := 3) rfl dX9_player_93 rfl ?_
      refine J_get (pc1 := 97) (j := 4) inUX6 (ci := 6) rfl (by decide) lf_X9_160 dX9_player_94 rfl hg.2.1 rfl ?_
      exact J_iret rfl rfl dX9_player_97 (by omega) (by omega) (kIS_mk (by unfold plA; rw [if_neg (not_not_intro hp01), if_neg (by omega), if_neg (by omega), if_neg (by omega), if_neg (by omega), if_neg (by omega), if_pos (by omega)]; try rfl) ⟨hX, frX.rf⟩)
    · refine J_tableIn (tgt := 98) (by omega) (by omega) dX9_player_21 (by omega) (by omega) (by rw [hs2]; rfl) rfl ?_
      refine J_aload_n (pc1 := 99) rfl (i := 0) rfl dX9_player_98 rfl ?_
      refine J_iload_n (pc1 := 100) rfl (i := 1) rfl dX9_player_99 rfl ?_
      refine J_aload_n (pc1 := 101) rfl (i := 0) rfl dX9_player_100 rfl ?_
      refine J_get (pc1 := 104) (j := 0) inUX9 (ci := 9) rfl (by decide) lf_X9_12 dX9_player_101 rfl W.1 rfl ?_
      refine J_iload_n (pc1 := 105) rfl (i := 1) rfl dX9_player_104 rfl ?_
      refine J_callVI (pc1 := 108) (As := [.int (iI 0)]) gv_X9_151 yv_X2_mostOf rfl (c_X2_mostOf hg (p := 0) (by omega)) dX9_player_105 rfl hg.1 rfl rfl (by omega) (by decide) (by omega) (by omega) (Nat.le_of_ble_eq_true rfl) ?_
      refine J_callVIs (pc1 := 111) (As := [.int (iI 0), .int (iI (moF f 0))]) gv_X9_163 yv_X9_timeWith rfl (c_X9_timeWith hX ok (RX_nn hR) (p := 0) (most := moF f 0) hp01 (by omega) (by omega) (by omega)) dX9_player_108 rfl W.1 rfl rfl (by omega) (by decide) (by omega) (by omega) (Nat.le_of_ble_eq_true rfl) (fun T1 hT1 => ?_)
      obtain ⟨hX1, fr1⟩ := hT1
      obtain ⟨G1, Z1, O1, F1, mm1, tb1, W1, e01, e11, e21, eH1⟩ := id hX1
      have hg1 : IsG T1 (G1 0) (Z1 0) (O1 0) f := e01 ▸ W1.2.2.1.1 0 (by omega)
      have htb := twT_b f 0 (moF f 0)
      unfold twT at htb
      refine J_istore (pc1 := 113) (L1 := [some (.ref (A 0)), some (.int (iI 0)), some (.int (iI w)), some (.ref (Z 0)), some (.int (iI (tT (f 0) (f 3) (f 2) (twF f 0) (moF f 0) (moF f (1 - 0)) (bZ (0 = f 5)))))]) dX9_player_111 rfl (by decide) rfl rfl ?_
      refine J_iload (pc1 := 115) rfl dX9_player_113 rfl ?_
      refine J_bipush (pc1 := 117) (by decide) dX9_player_115 rfl ?_
      refine J_icmp_ge (pc1 := 120) (tgt := 125) (by omega) (by omega) (by decide) (by decide) dX9_player_117 rfl rfl (fun hc3 => ?_) (fun hc3 => ?_)
      · refine J_sipush (pc1 := 128) (by decide) dX9_player_125 rfl ?_
        exact J_iret rfl rfl dX9_player_128 (by omega) (by omega) (kIS_mk (by unfold plA; rw [if_neg (not_not_intro hp01), if_neg (by omega), if_neg (by omega), if_neg (by omega), if_neg (by omega), if_neg (by omega), if_neg (by omega), if_pos (by omega)]; unfold twT; first | rw [if_pos (by omega)] | rw [if_neg (by omega)]) ⟨hX1, fr1⟩)
      · refine J_iload (pc1 := 122) rfl dX9_player_120 rfl ?_
        refine J_goto (tgt := 128) dX9_player_122 rfl ?_
        exact J_iret rfl rfl dX9_player_128 (by omega) (by omega) (kIS_mk (by unfold plA; rw [if_neg (not_not_intro hp01), if_neg (by omega), if_neg (by omega), if_neg (by omega), if_neg (by omega), if_neg (by omega), if_neg (by omega), if_pos (by omega)]; unfold twT; first | rw [if_pos (by omega)] | rw [if_neg (by omega)]) ⟨hX1, fr1⟩)
    · refine J_tableOut (tgt := 129) (by omega) (by omega) dX9_player_21 hs2 rfl ?_
      refine J_sipush (pc1 := 132) (by decide) dX9_player_129 rfl ?_
      exact J_iret rfl rfl dX9_player_132 (by omega) (by omega) (kIS_mk (by unfold plA; rw [if_neg (not_not_intro hp01), if_neg (by omega), if_neg (by omega), if_neg (by omega), if_neg (by omega), if_neg (by omega), if_neg (by omega), if_neg (by omega)]) ⟨hX, frX.rf⟩)
  · exact absurd hp01 (bC_0 hc1)
set_option maxHeartbeats 1000000 in
set_option maxRecDepth 20000 in
theorem c_X9_player1 {X : Nat → Prop} {S : pS} {A : Nat → Nat} {f f1 f2 : Int → Int} {b0 b1 : Int} {n : Nat} {H : Nat → Int → Int} {tx : Int → Int} {L : Nat} (hX : XS X S A f f1 f2 b0 b1 n H tx L) (ok : okX f f1 f2 b0 b1 n H) {w : Int} (hw : -2147483648 ≤ w ∧ w < 2147483648) (hR : RX X S) : Ct yX9_player cX9_player 5 (Option.some FieldType.int) 8 4 1303 [.ref (A 0), .int (iI 1), .int (iI w)] S (kIS (plA f 1 w) (fun T => XS X T A f f1 f2 b0 b1 n H tx L ∧ frX S T (A 6))) := by
  obtain ⟨G, Z, O, F, mm, tb, W, e0, e1, e2, eH⟩ := id hX
  have hg : IsG S (G 0) (Z 0) (O 0) f := e0 ▸ W.2.2.1.1 0 (by omega)
  have hp01 : (1 : Int) = 0 ∨ (1 : Int) = 1 := by decide
  have m8 := mo_8 ok.1 1
  have q3 := moF_b (p := 1) ok.1
  have q4 := moF_b (p := 1 - 1) ok.1
  have ms16 := mo_s ok.1 hp01
  refine Ct.ofJ (by decide +kernel) (Nat.le_of_ble_eq_true rfl) ?_
  refine J_L (L1 := [some (.ref (A 0)), some (.int (iI 1)), some (.int (iI w)), none, none]) rfl ?_
  refine J_iload_n (pc1 := 1) rfl (i := 1) rfl dX9_player_0 rfl ?_
  refine J_callSI (pc1 := 4) (As := [.int (iI 1)]) gs_X9_141 yv_X9_isPlayer (c_X9_isPlayer (v := 1) (by decide)) dX9_player_1 rfl rfl rfl (by omega) (by decide) (by omega) (by omega) (Nat.le_of_ble_eq_true rfl) ?_
  refine J_if_ne (pc1 := 7) (tgt := 11) (bC_lo _) (bC_hi _) dX9_player_4 rfl rfl (fun hc1 => ?_) (fun hc1 => ?_)
  · refine J_aload_n (pc1 := 12) rfl (i := 0) rfl dX9_player_11 rfl ?_
    refine J_get (pc1 := 15) (j := 0) inUX9 (ci := 9) rfl (by decide) lf_X9_12 dX9_player_12 rfl W.1 rfl ?_
    refine J_iload_n (pc1 := 16) rfl (i := 1) rfl dX9_player_15 rfl ?_
    refine J_callVF (pc1 := 19) (As := [.int (iI 1)]) gv_X9_144 yv_X2_sideOf rfl (c_X2_sideOf1 hg.1) dX9_player_16 rfl hg.1 rfl rfl (by omega) (by decide) (by omega) (by omega) (Nat.le_of_ble_eq_true rfl) ?_
    refine J_astore_n (pc1 := 20) (L1 := [some (.ref (A 0)), some (.int (iI 1)), some (.int (iI w)), some (.ref (O 0)), none]) rfl (i := 3) dX9_player_19 rfl (by decide) rfl rfl ?_
    refine J_iload_n (pc1 := 21) rfl (i := 2) rfl dX9_player_20 rfl ?_
    rcases (show w = 0 ∨ w = 1 ∨ w = 2 ∨ w = 3 ∨ w = 4 ∨ w = 5 ∨ w = 6 ∨ (w < 0 ∨ 6 < w) by omega) with hs2 | hs2 | hs2 | hs2 | hs2 | hs2 | hs2 | hs2
    · refine J_tableIn (tgt := 64) (by omega) (by omega) dX9_player_21 (by omega) (by omega) (by rw [hs2]; rfl) rfl ?_
      refine J_aload_n (pc1 := 65) rfl (i := 3) rfl dX9_player_64 rfl ?_
      refine J_get (pc1 := 68) (j := 1) inUX6 (ci := 6) rfl (by decide) lf_X9_148 dX9_player_65 rfl hg.2.2.1 rfl ?_
      exact J_iret rfl rfl dX9_player_68 (by omega) (by omega) (kIS_mk (by unfold plA; rw [if_neg (not_not_intro hp01), if_pos (by omega)]; try rfl) ⟨hX, frX.rf⟩)
    · refine J_tableIn (tgt := 69) (by omega) (by omega) dX9_player_21 (by omega) (by omega) (by rw [hs2]; rfl) rfl ?_
      refine J_aload_n (pc1 := 70) rfl (i := 0) rfl dX9_player_69 rfl ?_
      refine J_get (pc1 := 73) (j := 0) inUX9 (ci := 9) rfl (by decide) lf_X9_12 dX9_player_70 rfl W.1 rfl ?_
      refine J_iload_n (pc1 := 74) rfl (i := 1) rfl dX9_player_73 rfl ?_
      refine J_callVI (pc1 := 77) (As := [.int (iI 1)]) gv_X9_151 yv_X2_mostOf rfl (c_X2_mostOf hg (p := 1) (by omega)) dX9_player_74 rfl hg.1 rfl rfl (by omega) (by decide) (by omega) (by omega) (Nat.le_of_ble_eq_true rfl) ?_
      exact J_iret rfl rfl dX9_player_77 (by omega) (by omega) (kIS_mk (by unfold plA; rw [if_neg (not_not_intro hp01), if_neg (by omega), if_pos (by omega)]; try rfl) ⟨hX, frX.rf⟩)
    · refine J_tableIn (tgt := 78) (by omega) (by omega) dX9_player_21 (by omega) (by omega) (by rw [hs2]; rfl) rfl ?_
      refine J_aload_n (pc1 := 79) rfl (i := 3) rfl dX9_player_78 rfl ?_
      refine J_get (pc1 := 82) (j := 0) inUX6 (ci := 6) rfl (by decide) lf_X9_99 dX9_player_79 rfl hg.2.2.1 rfl ?_
      exact J_iret rfl rfl dX9_player_82 (by omega) (by omega) (kIS_mk (by unfold plA; rw [if_neg (not_not_intro hp01), if_neg (by omega), if_neg (by omega), if_pos (by omega)]; try rfl) ⟨hX, frX.rf⟩)
    · refine J_tableIn (tgt := 83) (by omega) (by omega) dX9_player_21 (by omega) (by omega) (by rw [hs2]; rfl) rfl ?_
      refine J_aload_n (pc1 := 84) rfl (i := 3) rfl dX9_player_83 rfl ?_
      refine J_get (pc1 := 87) (j := 2) inUX6 (ci := 6) rfl (by decide) lf_X9_154 dX9_player_84 rfl hg.2.2.1 rfl ?_
      exact J_iret rfl rfl dX9_player_87 (by omega) (by omega) (kIS_mk (by unfold plA; rw [if_neg (not_not_intro hp01), if_neg (by omega), if_neg (by omega), if_neg (by omega), if_pos (by omega)]; try rfl) ⟨hX, frX.rf⟩)
    · refine J_tableIn (tgt := 88) (by omega) (by omega) dX9_player_21 (by omega) (by omega) (by rw [hs2]; rfl) rfl ?_
      refine J_aload_n (pc1 := 89) rfl (i := 3) rfl dX9_player_88 rfl ?_
      refine J_get (pc1 := 92) (j := 3) inUX6 (ci := 6) rfl (by decide) lf_X9_157 dX9_player_89 rfl hg.2.2.1 rfl ?_
      exact J_iret rfl rfl dX9_player_92 (by omega) (by omega) (kIS_mk (by unfold plA; rw [if_neg (not_not_intro hp01), if_neg (by omega), if_neg (by omega), if_neg (by omega), if_neg (by omega), if_pos (by omega)]; try rfl) ⟨hX, frX.rf⟩)
    · refine J_tableIn (tgt := 93) (by omega) (by omega) dX9_player_21 (by omega) (by omega) (by rw [hs2]; rfl) rfl ?_
      refine J_aload_n (pc1 := 94) rfl (i := 3) rfl dX9_player_93 rfl ?_
      refine J_get (pc1 := 97) (j := 4) inUX6 (ci := 6) rfl (by decide) lf_X9_160 dX9_player_94 rfl hg.2.2.1 rfl ?_
      exact J_iret rfl rfl dX9_player_97 (by omega) (by omega) (kIS_mk (by unfold plA; rw [if_neg (not_not_intro hp01), if_neg (by omega), if_neg (by omega), if_neg (by omega), if_neg (by omega), if_neg (by omega), if_pos (by omega)]; try rfl) ⟨hX, frX.rf⟩)
    · refine J_tableIn (tgt := 98) (by omega) (by omega) dX9_player_21 (by omega) (by omega) (by rw [hs2]; rfl) rfl ?_
      refine J_aload_n (pc1 := 99) rfl (i := 0) rfl dX9_player_98 rfl ?_
      refine J_iload_n (pc1 := 100) rfl (i := 1) rfl dX9_player_99 rfl ?_
      refine J_aload_n (pc1 := 101) rfl (i := 0) rfl dX9_player_100 rfl ?_
      refine J_get (pc1 := 104) (j := 0) inUX9 (ci := 9) rfl (by decide) lf_X9_12 dX9_player_101 rfl W.1 rfl ?_
      refine J_iload_n (pc1 := 105) rfl (i := 1) rfl dX9_player_104 rfl ?_
      refine J_callVI (pc1 := 108) (As := [.int (iI 1)]) gv_X9_151 yv_X2_mostOf rfl (c_X2_mostOf hg (p := 1) (by omega)) dX9_player_105 rfl hg.1 rfl rfl (by omega) (by decide) (by omega) (by omega) (Nat.le_of_ble_eq_true rfl) ?_
      refine J_callVIs (pc1 := 111) (As := [.int (iI 1), .int (iI (moF f 1))]) gv_X9_163 yv_X9_timeWith rfl (c_X9_timeWith hX ok (RX_nn hR) (p := 1) (most := moF f 1) hp01 (by omega) (by omega) (by omega)) dX9_player_108 rfl W.1 rfl rfl (by omega) (by decide) (by omega) (by omega) (Nat.le_of_ble_eq_true rfl) (fun T1 hT1 => ?_)
      obtain ⟨hX1, fr1⟩ := hT1
      obtain ⟨G1, Z1, O1, F1, mm1, tb1, W1, e01, e11, e21, eH1⟩ := id hX1
      have hg1 : IsG T1 (G1 0) (Z1 0) (O1 0) f := e01 ▸ W1.2.2.1.1 0 (by omega)
      have htb := twT_b f 1 (moF f 1)
      unfold twT at htb
      refine J_istore (pc1 := 113) (L1 := [some (.ref (A 0)), some (.int (iI 1)), some (.int (iI w)), some (.ref (O 0)), some (.int (iI (tT (f 0) (f 3) (f 2) (twF f 1) (moF f 1) (moF f (1 - 1)) (bZ (1 = f 5)))))]) dX9_player_111 rfl (by decide) rfl rfl ?_
      refine J_iload (pc1 := 115) rfl dX9_player_113 rfl ?_
      refine J_bipush (pc1 := 117) (by decide) dX9_player_115 rfl ?_
      refine J_icmp_ge (pc1 := 120) (tgt := 125) (by omega) (by omega) (by decide) (by decide) dX9_player_117 rfl rfl (fun hc3 => ?_) (fun hc3 => ?_)
      · refine J_sipush (pc1 := 128) (by decide) dX9_player_125 rfl ?_
        exact J_iret rfl rfl dX9_player_128 (by omega) (by omega) (kIS_mk (by unfold plA; rw [if_neg (not_not_intro hp01), if_neg (by omega), if_neg (by omega), if_neg (by omega), if_neg (by omega), if_neg (by omega), if_neg (by omega), if_pos (by omega)]; unfold twT; first | rw [if_pos (by omega)] | rw [if_neg (by omega)]) ⟨hX1, fr1⟩)
      · refine J_iload (pc1 := 122) rfl dX9_player_120 rfl ?_
        refine J_goto (tgt := 128) dX9_player_122 rfl ?_
        exact J_iret rfl rfl dX9_player_128 (by omega) (by omega) (kIS_mk (by unfold plA; rw [if_neg (not_not_intro hp01), if_neg (by omega), if_neg (by omega), if_neg (by omega), if_neg (by omega), if_neg (by omega), if_neg (by omega), if_pos (by omega)]; unfold twT; first | rw [if_pos (by omega)] | rw [if_neg (by omega)]) ⟨hX1, fr1⟩)
    · refine J_tableOut (tgt := 129) (by omega) (by omega) dX9_player_21 hs2 rfl ?_
      refine J_sipush (pc1 := 132) (by decide) dX9_player_129 rfl ?_
      exact J_iret rfl rfl dX9_player_132 (by omega) (by omega) (kIS_mk (by unfold plA; rw [if_neg (not_not_intro hp01), if_neg (by omega), if_neg (by omega), if_neg (by omega), if_neg (by omega), if_neg (by omega), if_neg (by omega), if_neg (by omega)]) ⟨hX, frX.rf⟩)
  · exact absurd hp01 (bC_0 hc1)
set_option maxHeartbeats 1000000 in
set_option maxRecDepth 20000 in
theorem c_X9_playerN {X : Nat → Prop} {S : pS} {A : Nat → Nat} {f f1 f2 : Int → Int} {b0 b1 : Int} {n : Nat} {H : Nat → Int → Int} {tx : Int → Int} {L : Nat} (hX : XS X S A f f1 f2 b0 b1 n H tx L) (ok : okX f f1 f2 b0 b1 n H) {p w : Int} (hp : -2147483648 ≤ p ∧ p < 2147483648) (hw : -2147483648 ≤ w ∧ w < 2147483648) (hp9 : ¬ (p = 0 ∨ p = 1)) : Ct yX9_player cX9_player 5 (Option.some FieldType.int) 8 0 0 [.ref (A 0), .int (iI p), .int (iI w)] S (kIS (plA f p w) (fun T => XS X T A f f1 f2 b0 b1 n H tx L ∧ frX S T (A 6))) := by
  obtain ⟨G, Z, O, F, mm, tb, W, e0, e1, e2, eH⟩ := id hX
  have hg : IsG S (G 0) (Z 0) (O 0) f := e0 ▸ W.2.2.1.1 0 (by omega)
  refine Ct.ofJ (by decide +kernel) (Nat.le_of_ble_eq_true rfl) ?_
  refine J_L (L1 := [some (.ref (A 0)), some (.int (iI p)), some (.int (iI w)), none, none]) rfl ?_
  refine J_iload_n (pc1 := 1) rfl (i := 1) rfl dX9_player_0 rfl ?_
  refine J_callSI (pc1 := 4) (As := [.int (iI p)]) gs_X9_141 yv_X9_isPlayer (c_X9_isPlayer (v := p) (by omega)) dX9_player_1 rfl rfl rfl (by omega) (by decide) (by omega) (by omega) (Nat.le_of_ble_eq_true rfl) ?_
  refine J_if_ne (pc1 := 7) (tgt := 11) (bC_lo _) (bC_hi _) dX9_player_4 rfl rfl (fun hc1 => ?_) (fun hc1 => ?_)
  · exact absurd (bC_1 hc1) hp9
  · refine J_sipush (pc1 := 10) (by decide) dX9_player_7 rfl ?_
    exact J_iret rfl rfl dX9_player_10 (by omega) (by omega) (kIS_mk (by unfold plA; rw [if_pos hp9]) ⟨hX, frX.rf⟩)
set_option maxHeartbeats 1000000 in
set_option maxRecDepth 20000 in
theorem c_X9_count {X : Nat → Prop} {S : pS} {A : Nat → Nat} {f f1 f2 : Int → Int} {b0 b1 : Int} {n : Nat} {H : Nat → Int → Int} {tx : Int → Int} {L : Nat} (hX : XS X S A f f1 f2 b0 b1 n H tx L) (ok : okX f f1 f2 b0 b1 n H) {w : Int} (hw : -2147483648 ≤ w ∧ w < 2147483648) : Ct yX9_count cX9_count 2 (Option.some FieldType.int) 3 0 0 [.ref (A 0), .int (iI w)] S (kIS (cnA f n L w) (fun T => XS X T A f f1 f2 b0 b1 n H tx L ∧ frX S T (A 6))) := by
  obtain ⟨G, Z, O, F, mm, tb, W, e0, e1, e2, eH⟩ := id hX
  have hg : IsG S (G 0) (Z 0) (O 0) f := e0 ▸ W.2.2.1.1 0 (by omega)
  obtain ⟨o0, o1, o2, o3, o4, o5, o7, o9, o10, o12, o13, o18⟩ := ok.1
  refine Ct.ofJ (by decide +kernel) (Nat.le_of_ble_eq_true rfl) ?_
  refine J_L (L1 := [some (.ref (A 0)), some (.int (iI w))]) rfl ?_
  refine J_iload_n (pc1 := 1) rfl (i := 1) rfl dX9_count_0 rfl ?_
  refine J_callSI (pc1 := 4) (As := [.int (iI w)]) gs_X9_63 yv_X9_isSetting (c_X9_isSetting (v := w) (by omega)) dX9_count_1 rfl rfl rfl (by omega) (by decide) (by omega) (by omega) (Nat.le_of_ble_eq_true rfl) ?_
  refine J_if_eq (pc1 := 7) (tgt := 16) (bC_lo _) (bC_hi _) dX9_count_4 rfl rfl (fun hc1 => ?_) (fun hc1 => ?_)
  · refine J_iload_n (pc1 := 17) rfl (i := 1) rfl dX9_count_16 rfl ?_
    rcases (show w = 4 ∨ w = 5 ∨ w = 6 ∨ w = 7 ∨ w = 8 ∨ w = 9 ∨ w = 10 ∨ w = 11 ∨ (w < 4 ∨ 11 < w) by omega) with hs2 | hs2 | hs2 | hs2 | hs2 | hs2 | hs2 | hs2 | hs2
    · refine J_tableIn (tgt := 64) (by omega) (by omega) dX9_count_17 (by omega) (by omega) (by rw [hs2]; rfl) rfl ?_
      refine J_aload_n (pc1 := 65) rfl (i := 0) rfl dX9_count_64 rfl ?_
      refine J_get (pc1 := 68) (j := 0) inUX9 (ci := 9) rfl (by decide) lf_X9_12 dX9_count_65 rfl W.1 rfl ?_
      refine J_get (pc1 := 71) (j := 4) inUX2 (ci := 2) rfl (by decide) lf_X9_166 dX9_count_68 rfl hg.1 rfl ?_
      exact J_iret rfl rfl dX9_count_71 (by omega) (by omega) (kIS_mk (by have hk := bC_0 (P := 0 ≤ w ∧ w ≤ 3) (by assumption); unfold cnA; rw [if_neg (by omega), if_pos (by omega)]) ⟨hX, frX.rf⟩)
    · refine J_tableIn (tgt := 72) (by omega) (by omega) dX9_count_17 (by omega) (by omega) (by rw [hs2]; rfl) rfl ?_
      refine J_aload_n (pc1 := 73) rfl (i := 0) rfl dX9_count_72 rfl ?_
      refine J_get (pc1 := 76) (j := 0) inUX9 (ci := 9) rfl (by decide) lf_X9_12 dX9_count_73 rfl W.1 rfl ?_
      refine J_callVI (pc1 := 79) (As := []) gv_X9_115 yv_X2_isOver rfl (c_X2_isOver hg.1 (by omega) (by omega)) dX9_count_76 rfl hg.1 rfl rfl (by omega) (by decide) (by omega) (by omega) (Nat.le_of_ble_eq_true rfl) ?_
      refine J_if_eq (pc1 := 82) (tgt := 88) (bZ_lo _) (bZ_hi _) dX9_count_79 rfl rfl (fun hc3 => ?_) (fun hc3 => ?_)
      · refine J_aload_n (pc1 := 89) rfl (i := 0) rfl dX9_count_88 rfl ?_
        refine J_get (pc1 := 92) (j := 0) inUX9 (ci := 9) rfl (by decide) lf_X9_12 dX9_count_89 rfl W.1 rfl ?_
        refine J_get (pc1 := 95) (j := 5) inUX2 (ci := 2) rfl (by decide) lf_X9_169 dX9_count_92 rfl hg.1 rfl ?_
        exact J_iret rfl rfl dX9_count_95 (by omega) (by omega) (kIS_mk (by have hk := bC_0 (P := 0 ≤ w ∧ w ≤ 3) (by assumption); unfold cnA; rw [if_neg (by omega), if_neg (by omega), if_pos (by omega)]; first | rw [if_pos (bZ_1 (P := winE (f 0) (f 4) ≠ -1006) (by assumption))] | rw [if_neg (bZ_0 (P := winE (f 0) (f 4) ≠ -1006) (by assumption))]) ⟨hX, frX.rf⟩)
      · refine J_sipush (pc1 := 85) (by decide) dX9_count_82 rfl ?_
        refine J_goto (tgt := 95) dX9_count_85 rfl ?_
        exact J_iret rfl rfl dX9_count_95 (by omega) (by omega) (kIS_mk (by have hk := bC_0 (P := 0 ≤ w ∧ w ≤ 3) (by assumption); unfold cnA; rw [if_neg (by omega), if_neg (by omega), if_pos (by omega)]; first | rw [if_pos (bZ_1 (P := winE (f 0) (f 4) ≠ -1006) (by assumption))] | rw [if_neg (bZ_0 (P := winE (f 0) (f 4) ≠ -1006) (by assumption))]) ⟨hX, frX.rf⟩)
    · refine J_tableIn (tgt := 96) (by omega) (by omega) dX9_count_17 (by omega) (by omega) (by rw [hs2]; rfl) rfl ?_
      refine J_aload_n (pc1 := 97) rfl (i := 0) rfl dX9_count_96 rfl ?_
      refine J_get (pc1 := 100) (j := 0) inUX9 (ci := 9) rfl (by decide) lf_X9_12 dX9_count_97 rfl W.1 rfl ?_
      refine J_get (pc1 := 103) (j := 6) inUX2 (ci := 2) rfl (by decide) lf_X9_91 dX9_count_100 rfl hg.1 rfl ?_
      exact J_iret rfl rfl dX9_count_103 (by omega) (by omega) (kIS_mk (by have hk := bC_0 (P := 0 ≤ w ∧ w ≤ 3) (by assumption); unfold cnA; rw [if_neg (by omega), if_neg (by omega), if_neg (by omega), if_pos (by omega)]) ⟨hX, frX.rf⟩)
    · refine J_tableIn (tgt := 104) (by omega) (by omega) dX9_count_17 (by omega) (by omega) (by rw [hs2]; rfl) rfl ?_
      refine J_aload_n (pc1 := 105) rfl (i := 0) rfl dX9_count_104 rfl ?_
      refine J_get (pc1 := 108) (j := 0) inUX9 (ci := 9) rfl (by decide) lf_X9_12 dX9_count_105 rfl W.1 rfl ?_
      refine J_callVI (pc1 := 111) (As := []) gv_X9_172 yv_X2_winner rfl (c_X2_winner hg.1 (by omega) (by omega)) dX9_count_108 rfl hg.1 rfl rfl (by omega) (by decide) (by omega) (by omega) (Nat.le_of_ble_eq_true rfl) ?_
      exact J_iret rfl rfl dX9_count_111 (by omega) (by omega) (kIS_mk (by have hk := bC_0 (P := 0 ≤ w ∧ w ≤ 3) (by assumption); unfold cnA; rw [if_neg (by omega), if_neg (by omega), if_neg (by omega), if_neg (by omega), if_pos (by omega)]) ⟨hX, frX.rf⟩)
    · refine J_tableIn (tgt := 112) (by omega) (by omega) dX9_count_17 (by omega) (by omega) (by rw [hs2]; rfl) rfl ?_
      refine J_aload_n (pc1 := 113) rfl (i := 0) rfl dX9_count_112 rfl ?_
      refine J_get (pc1 := 116) (j := 0) inUX9 (ci := 9) rfl (by decide) lf_X9_12 dX9_count_113 rfl W.1 rfl ?_
      refine J_get (pc1 := 119) (j := 7) inUX2 (ci := 2) rfl (by decide) lf_X9_175 dX9_count_116 rfl hg.1 rfl ?_
      exact J_iret rfl rfl dX9_count_119 (by omega) (by omega) (kIS_mk (by have hk := bC_0 (P := 0 ≤ w ∧ w ≤ 3) (by assumption); unfold cnA; rw [if_neg (by omega), if_neg (by omega), if_neg (by omega), if_neg (by omega), if_neg (by omega), if_pos (by omega)]) ⟨hX, frX.rf⟩)
    · refine J_tableIn (tgt := 120) (by omega) (by omega) dX9_count_17 (by omega) (by omega) (by rw [hs2]; rfl) rfl ?_
      refine J_aload_n (pc1 := 121) rfl (i := 0) rfl dX9_count_120 rfl ?_
      refine J_get (pc1 := 124) (j := 0) inUX9 (ci := 9) rfl (by decide) lf_X9_12 dX9_count_121 rfl W.1 rfl ?_
      refine J_get (pc1 := 127) (j := 8) inUX2 (ci := 2) rfl (by decide) lf_X9_95 dX9_count_124 rfl hg.1 rfl ?_
      refine J_get (pc1 := 130) (j := 4) inUX6 (ci := 6) rfl (by decide) lf_X9_160 dX9_count_127 rfl hg.2.1 rfl ?_
      refine J_aload_n (pc1 := 131) rfl (i := 0) rfl dX9_count_130 rfl ?_
      refine J_get (pc1 := 134) (j := 0) inUX9 (ci := 9) rfl (by decide) lf_X9_12 dX9_count_131 rfl W.1 rfl ?_
      refine J_get (pc1 := 137) (j := 9) inUX2 (ci := 2) rfl (by decide) lf_X9_104 dX9_count_134 rfl hg.1 rfl ?_
      refine J_get (pc1 := 140) (j := 4) inUX6 (ci := 6) rfl (by decide) lf_X9_160 dX9_count_137 rfl hg.2.2.1 rfl ?_
      refine J_iadd (pc1 := 141) dX9_count_140 rfl ?_
      exact J_iret rfl rfl dX9_count_141 (by omega) (by omega) (kIS_mk (by have hk := bC_0 (P := 0 ≤ w ∧ w ≤ 3) (by assumption); unfold cnA; rw [if_neg (by omega), if_neg (by omega), if_neg (by omega), if_neg (by omega), if_neg (by omega), if_neg (by omega), if_pos (by omega)]) ⟨hX, frX.rf⟩)
    · refine J_tableIn (tgt := 142) (by omega) (by omega) dX9_count_17 (by omega) (by omega) (by rw [hs2]; rfl) rfl ?_
      refine J_aload_n (pc1 := 143) rfl (i := 0) rfl dX9_count_142 rfl ?_
      refine J_get (pc1 := 146) (j := 4) inUX9 (ci := 9) rfl (by decide) lf_X9_36 dX9_count_143 rfl W.1 rfl ?_
      refine J_get (pc1 := 149) (j := 1) inUX5 (ci := 5) rfl (by decide) lf_X9_178 dX9_count_146 rfl W.2.2.2.2.2.2.1.1 rfl ?_
      exact J_iret rfl rfl dX9_count_149 (by omega) (by omega) (kIS_mk (by have hk := bC_0 (P := 0 ≤ w ∧ w ≤ 3) (by assumption); unfold cnA; rw [if_neg (by omega), if_neg (by omega), if_neg (by omega), if_neg (by omega), if_neg (by omega), if_neg (by omega), if_neg (by omega), if_pos (by omega)]) ⟨hX, frX.rf⟩)
    · refine J_tableIn (tgt := 150) (by omega) (by omega) dX9_count_17 (by omega) (by omega) (by rw [hs2]; rfl) rfl ?_
      refine J_aload_n (pc1 := 151) rfl (i := 0) rfl dX9_count_150 rfl ?_
      refine J_get (pc1 := 154) (j := 1) inUX9 (ci := 9) rfl (by decide) lf_X9_19 dX9_count_151 rfl W.1 rfl ?_
      refine J_get (pc1 := 157) (j := 1) inUX3 (ci := 3) rfl (by decide) lf_X9_181 dX9_count_154 rfl W.2.1.1 rfl ?_
      exact J_iret rfl rfl dX9_count_157 (by omega) (by omega) (kIS_mk (by have hk := bC_0 (P := 0 ≤ w ∧ w ≤ 3) (by assumption); unfold cnA; rw [if_neg (by omega), if_neg (by omega), if_neg (by omega), if_neg (by omega), if_neg (by omega), if_neg (by omega), if_neg (by omega), if_neg (by omega), if_pos (by omega)]) ⟨hX, frX.rf⟩)
    · refine J_tableOut (tgt := 158) (by omega) (by omega) dX9_count_17 hs2 rfl ?_
      refine J_sipush (pc1 := 161) (by decide) dX9_count_158 rfl ?_
      exact J_iret rfl rfl dX9_count_161 (by omega) (by omega) (kIS_mk (by have hk := bC_0 (P := 0 ≤ w ∧ w ≤ 3) (by assumption); unfold cnA; rw [if_neg (by omega), if_neg (by omega), if_neg (by omega), if_neg (by omega), if_neg (by omega), if_neg (by omega), if_neg (by omega), if_neg (by omega), if_neg (by omega)]) ⟨hX, frX.rf⟩)
  · have hk : 0 ≤ w ∧ w ≤ 3 := bC_1 (by assumption)
    refine J_aload_n (pc1 := 8) rfl (i := 0) rfl dX9_count_7 rfl ?_
    refine J_get (pc1 := 11) (j := 0) inUX9 (ci := 9) rfl (by decide) lf_X9_12 dX9_count_8 rfl W.1 rfl ?_
    refine J_iload_n (pc1 := 12) rfl (i := 1) rfl dX9_count_11 rfl ?_
    refine J_callVI (pc1 := 15) (As := [.int (iI w)]) gv_X9_74 yv_X2_settingOf rfl (c_X2_settingOf hg hk) dX9_count_12 rfl hg.1 rfl rfl (by omega) (by decide) (by omega) (by omega) (Nat.le_of_ble_eq_true rfl) ?_
    exact J_iret rfl rfl dX9_count_15 (by omega) (by omega) (kIS_mk (by unfold cnA; rw [if_pos hk]) ⟨hX, frX.rf⟩)
