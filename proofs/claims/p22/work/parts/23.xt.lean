/-! 23.xt: the state as one word; calls between states; two objects side by side -/
abbrev GS : Type := (Int → Int) × (Int → Int) × (Int → Int) × Int × Int × Nat × (Nat → Int → Int)
/-- what is neither made nor lost -/
def wlF (f : Int → Int) : Prop := f 7 + f 8 + f 17 = f 9 + f 10 ∧ f 13 + f 14 = f 6 ∧ f 13 - f 14 = f 4 ∧ (f 2 = 0 → f 17 = 0) ∧ (f 2 = 1 → f 11 + f 12 = f 17)
def okW (g : GS) : Prop := okX g.1 g.2.1 g.2.2.1 g.2.2.2.1 g.2.2.2.2.1 g.2.2.2.2.2.1 g.2.2.2.2.2.2 ∧ wlF g.1 ∧ (g.2.2.2.1 = 1 → wlF g.2.1) ∧ (g.2.2.2.2.1 = 1 → wlF g.2.2.1) ∧ ∀ i, i < g.2.2.2.2.2.1 → wlF (g.2.2.2.2.2.2 i)
def XT (S : pS) (A : Nat → Nat) (g : GS) (tx : Int → Int) (L : Nat) : Prop := XS (fun a => a = A 6) S A g.1 g.2.1 g.2.2.1 g.2.2.2.1 g.2.2.2.2.1 g.2.2.2.2.2.1 g.2.2.2.2.2.2 tx L ∧ okW g
abbrev chg (g : GS) (f' : Int → Int) : GS := (f', g.2.1, g.2.2.1, g.2.2.2.1, g.2.2.2.2.1, kpN g.2.2.2.2.2.1, kpH g.2.2.2.2.2.1 g.1 g.2.2.2.2.2.2)
abbrev und (g : GS) : GS := (g.2.2.2.2.2.2 (g.2.2.2.2.2.1 - 1), g.2.1, g.2.2.1, g.2.2.2.1, g.2.2.2.2.1, g.2.2.2.2.2.1 - 1, g.2.2.2.2.2.2)
abbrev sv0 (g : GS) : GS := (g.1, g.1, g.2.2.1, 1, g.2.2.2.2.1, g.2.2.2.2.2.1, g.2.2.2.2.2.2)
abbrev sv1 (g : GS) : GS := (g.1, g.2.1, g.1, g.2.2.2.1, 1, g.2.2.2.2.2.1, g.2.2.2.2.2.2)
theorem XT_pad {S : pS} {A : Nat → Nat} {g : GS} {tx : Int → Int} {L : Nat} (h : XT S A g tx L) : S (A 6) = some (aI 60 tx) ∧ L ≤ 60 ∧ ∀ i : Int, 0 ≤ tx i ∧ tx i ≤ 255 := by
  obtain ⟨⟨G, Z, O, F, mm, tb, W, -⟩, -⟩ := h
  exact W.2.2.2.2.2.2.1.2
theorem XT_0 {S : pS} {A : Nat → Nat} {g : GS} {tx : Int → Int} {L : Nat} (h : XT S A g tx L) : ∃ fs, S (A 0) = some (oO 9 fs) := by
  obtain ⟨⟨G, Z, O, F, mm, tb, W, -⟩, -⟩ := h
  exact ⟨_, W.1⟩
theorem XT_R {S : pS} {A : Nat → Nat} {g : GS} {tx : Int → Int} {L : Nat} (h : XT S A g tx L) : RX (fun a => a = A 6) S := fun a ha => ⟨60, (fun k : Nat => iI (tx (k : Int))), by rw [show a = A 6 from ha]; exact (XT_pad h).1⟩
theorem XT_o {S : pS} {A : Nat → Nat} {g : GS} {tx : Int → Int} {L : Nat} (h : XT S A g tx L) : okW g := h.2
theorem okW_chg {g : GS} {f' : Int → Int} (h : okW g) (ok : okF f') (wl : wlF f') : okW (chg g f') := by
  obtain ⟨h1, h2, h3, h4, h5⟩ := h
  refine ⟨okX_f (okX_keep h1) ok, wl, h3, h4, fun i hi => ?_⟩
  have hi : i < kpN g.2.2.2.2.2.1 := hi
  show wlF (kpH g.2.2.2.2.2.1 g.1 g.2.2.2.2.2.2 i)
  unfold kpN at hi
  unfold kpH
  split
  · next q =>
    rw [if_pos q] at hi
    split
    · exact h5 _ (by omega)
    · exact h2
  · next q =>
    rw [if_neg q] at hi
    split
    · exact h2
    · exact h5 _ (by omega)
theorem okW_und {g : GS} (h : okW g) (hn : 0 < g.2.2.2.2.2.1) : okW (und g) := by
  obtain ⟨o1, o2, o3, o4, o5⟩ := h
  have h6 := o1.2.2.2.2.2.1
  refine ⟨⟨o1.2.2.2.2.2.2 _ (by omega), o1.2.1, o1.2.2.1, o1.2.2.2.1, o1.2.2.2.2.1, show g.2.2.2.2.2.1 - 1 ≤ 6 by omega, fun i hi => ?_⟩, o5 _ (by omega), o3, o4, fun i hi => ?_⟩
  · have hi : i < g.2.2.2.2.2.1 - 1 := hi
    exact o1.2.2.2.2.2.2 i (by omega)
  · have hi : i < g.2.2.2.2.2.1 - 1 := hi
    exact o5 i (by omega)
theorem okF_new {g : Int → Int} (h0 : 1 ≤ g 0 ∧ g 0 ≤ 3) (h1 : 0 ≤ g 1 ∧ g 1 ≤ 2) (h2 : g 2 = 0 ∨ g 2 = 1) (h3 : g 3 = 0 ∨ g 3 = 1) (h9 : 0 ≤ g 9 ∧ g 9 ≤ 6) (h10 : 0 ≤ g 10 ∧ g 10 ≤ 6) (h18 : g 18 = g 15 + g 16) : okF (newF g) := by
  have a0 : newF g 0 = g 0 := rfl
  have a1 : newF g 1 = g 1 := rfl
  have a2 : newF g 2 = g 2 := rfl
  have a3 : newF g 3 = g 3 := rfl
  have a4 : newF g 4 = 0 := rfl
  have a5 : newF g 5 = 0 := rfl
  have a7 : newF g 7 = g 9 := rfl
  have a8 : newF g 8 = g 10 := rfl
  have a9 : newF g 9 = g 9 := rfl
  have a10 : newF g 10 = g 10 := rfl
  have a15 : newF g 15 = g 15 := rfl
  have a16 : newF g 16 = g 16 := rfl
  have a18 : newF g 18 = g 18 := rfl
  unfold okF
  rw [a0, a1, a2, a3, a4, a5, a7, a8, a9, a10, a15, a16, a18]
  exact ⟨h0, h1, h2, h3, by omega, Or.inl rfl, by omega, h9, h10, by omega, fun _ => by omega, h18⟩
theorem wlF_new (g : Int → Int) : wlF (newF g) := by
  have a2 : newF g 2 = g 2 := rfl
  have a4 : newF g 4 = 0 := rfl
  have a6 : newF g 6 = 0 := rfl
  have a7 : newF g 7 = g 9 := rfl
  have a8 : newF g 8 = g 10 := rfl
  have a9 : newF g 9 = g 9 := rfl
  have a10 : newF g 10 = g 10 := rfl
  have a11 : newF g 11 = 0 := rfl
  have a12 : newF g 12 = 0 := rfl
  have a13 : newF g 13 = 0 := rfl
  have a14 : newF g 14 = 0 := rfl
  have a17 : newF g 17 = 0 := rfl
  unfold wlF
  rw [a2, a4, a6, a7, a8, a9, a10, a11, a12, a13, a14, a17]
  exact ⟨by omega, by omega, by omega, fun _ => rfl, fun _ => rfl⟩
theorem okF_set {f : Int → Int} (ok : okF f) {k v : Int} (hp : (0 ≤ k ∧ k ≤ 3) ∧ (if k = 0 then 1 else 0) ≤ v ∧ v ≤ (if k = 0 then 3 else if k = 1 then 2 else 1)) : okF (newF (uZ f k v)) := by
  obtain ⟨o0, o1, o2, o3, o4, o5, o7, o9, o10, o12, o13, o18⟩ := ok
  obtain ⟨hk, h1, h2⟩ := hp
  rcases (show k = 0 ∨ k = 1 ∨ k = 2 ∨ k = 3 by omega) with rfl | rfl | rfl | rfl
  · have e1 : 1 ≤ v := h1
    have e2 : v ≤ 3 := h2
    exact okF_new (g := uZ f 0 v) ⟨e1, e2⟩ o1 o2 o3 o9 o10 o18
  · have e1 : 0 ≤ v := h1
    have e2 : v ≤ 2 := h2
    exact okF_new (g := uZ f 1 v) o0 ⟨e1, e2⟩ o2 o3 o9 o10 o18
  · have e1 : 0 ≤ v := h1
    have e2 : v ≤ 1 := h2
    exact okF_new (g := uZ f 2 v) o0 o1 (show v = 0 ∨ v = 1 by omega) o3 o9 o10 o18
  · have e1 : 0 ≤ v := h1
    have e2 : v ≤ 1 := h2
    exact okF_new (g := uZ f 3 v) o0 o1 o2 (show v = 0 ∨ v = 1 by omega) o9 o10 o18
theorem okF_begin {f : Int → Int} (ok : okF f) {a b : Int} (hp : (0 ≤ a ∧ a ≤ 6) ∧ 0 ≤ b ∧ b ≤ 6) : okF (newF (uZ (uZ f 9 a) 10 b)) := by
  obtain ⟨o0, o1, o2, o3, o4, o5, o7, o9, o10, o12, o13, o18⟩ := ok
  exact okF_new (g := uZ (uZ f 9 a) 10 b) o0 o1 o2 o3 hp.1 hp.2 o18
theorem wlF_pl {f : Int → Int} (ok : okF f) (wl : wlF f) (b a : Int) : wlF (plF f b a) := by
  obtain ⟨w1, w2, w3, w4, w5⟩ := wl
  have o2 := ok.2.2.1
  have g0 : f 2 = 0 → gaF f (prF f b a) = prF f b a := fun q => gaE0 q
  have g1 : f 2 = 1 → gaF f (prF f b a) = 0 := fun q => gaE1 q
  rcases tkF_b ok b a with ht | ht
  · obtain ⟨p0, p1, p2, p3, p4, p5, p6, p7, p8, p9, p10, p11, p12, p13, p14, p15, p16, p17, p18⟩ := plF_at0 ht
    unfold wlF
    rw [p2, p4, p6, p7, p8, p9, p10, p11, p12, p13, p14, p17]
    exact ⟨by omega, by omega, by omega, fun q => (by have := g0 q; have := w4 q; omega), fun q => (by have := g1 q; have := w5 q; omega)⟩
  · obtain ⟨p0, p1, p2, p3, p4, p5, p6, p7, p8, p9, p10, p11, p12, p13, p14, p15, p16, p17, p18⟩ := plF_at1 ht
    unfold wlF
    rw [p2, p4, p6, p7, p8, p9, p10, p11, p12, p13, p14, p17]
    exact ⟨by omega, by omega, by omega, fun q => (by have := g0 q; have := w4 q; omega), fun q => (by have := g1 q; have := w5 q; omega)⟩
/-- a call: from a state and a pad to an answer, a state and a pad -/
def MC (y : MethodName) (cc : ByteArray) (nL : Nat) (rt : Option FieldType) (d mc ms : Nat) (as : List Value) (g : GS) (tx : Int → Int) (L : Nat) (z : Int) (g' : GS) (tx' : Int → Int) (L' : Nat) : Prop := ∀ (A : Nat → Nat) (S : pS), XT S A g tx L → Ct y cc nL rt d mc ms (.ref (A 0) :: as) S (kIS z (fun T => XT T A g' tx' L'))
section MCS
variable {g : GS} {tx : Int → Int} {L : Nat}
theorem m_cn {w : Int} (hw : -2147483648 ≤ w ∧ w < 2147483648) {z : Int} (hz : cnA g.1 g.2.2.2.2.2.1 L w = z) : MC yX9_count cX9_count 2 (some .int) 3 0 0 [.int (iI w)] g tx L (z) g tx L := fun A S h => by
  subst hz
  exact (c_X9_count h.1 h.2.1 hw).weak (fun r T q => ⟨q.1, q.2.1, h.2⟩)
theorem m_pl {p w z : Int} (hp : p = 0 ∨ p = 1) (hw : -2147483648 ≤ w ∧ w < 2147483648) (hz : plA g.1 p w = z) : MC yX9_player cX9_player 5 (some .int) 8 4 1303 [.int (iI p), .int (iI w)] g tx L (z) g tx L := fun A S h => by
  subst hz
  rcases hp with rfl | rfl
  · exact (c_X9_player0 h.1 h.2.1 hw (XT_R h)).weak (fun r T q => ⟨q.1, q.2.1, h.2⟩)
  · exact (c_X9_player1 h.1 h.2.1 hw (XT_R h)).weak (fun r T q => ⟨q.1, q.2.1, h.2⟩)
theorem m_fo {p r : Int} (hp : -2147483648 ≤ p ∧ p < 2147483648) (hr : -2147483648 ≤ r ∧ r < 2147483648) {z : Int} (hz : foF g.1 p r 8 = z) : MC yX9_forced cX9_forced 3 (some .int) 8 4 1303 [.int (iI p), .int (iI r)] g tx L (z) g tx L := fun A S h => by
  subst hz
  exact (c_X9_forced h.1 h.2.1 hp hr (XT_R h)).weak (fun r T q => ⟨q.1, q.2.1, h.2⟩)
theorem m_ah {p r : Int} (hp : -2147483648 ≤ p ∧ p < 2147483648) (hr : -2147483648 ≤ r ∧ r < 2147483648) {z : Int} (hz : foF g.1 p r 3 = z) : MC yX9_ahead cX9_ahead 3 (some .int) 15 0 0 [.int (iI p), .int (iI r)] g tx L (z) g tx L := fun A S h => by
  subst hz
  exact (c_X9_ahead h.1 h.2.1 hp hr).weak (fun r T q => ⟨q.1, q.2.1, h.2⟩)
theorem m_bb  {z : Int} (hz : bbA g.1 = z) : MC yX9_bestBid cX9_bestBid 1 (some .int) 9 4 1303 [] g tx L (z) g tx L := fun A S h => by
  subst hz
  exact (c_X9_bestBid h.1 h.2.1 (XT_R h)).weak (fun r T q => ⟨q.1, q.2.1, h.2⟩)
theorem m_ba {b : Int} (hb : -2147483648 ≤ b ∧ b < 2147483648) {z : Int} (hz : baA g.1 b = z) : MC yX9_bestAnswer cX9_bestAnswer 2 (some .int) 9 4 1303 [.int (iI b)] g tx L (z) g tx L := fun A S h => by
  subst hz
  exact (c_X9_bestAnswer h.1 h.2.1 hb (XT_R h)).weak (fun r T q => ⟨q.1, q.2.1, h.2⟩)
theorem m_ck  {z : Int} (hz : ckA g.1 = z) : MC yX9_keeps cX9_keeps 1 (some .int) 9 4 1303 [] g tx L (z) g tx L := fun A S h => by
  subst hz
  exact (c_X9_keeps h.1 h.2.1 (XT_R h)).weak (fun r T q => ⟨q.1, q.2.1, h.2⟩)
theorem m_lh {p : Int} (hp : -2147483648 ≤ p ∧ p < 2147483648) {z : Int} (hz : lhA g.1 p = z) : MC yX9_leastHours cX9_leastHours 3 (some .int) 8 28 9121 [.int (iI p)] g tx L (z) g tx L := fun A S h => by
  subst hz
  exact (c_X9_leastHours h.1 h.2.1 hp (XT_R h)).weak (fun r T q => ⟨q.1, q.2.1, h.2⟩)
theorem m_set {k v : Int} (hk : -2147483648 ≤ k ∧ k < 2147483648) (hv : -2147483648 ≤ v ∧ v < 2147483648) (hP : ((0 ≤ k ∧ k ≤ 3) ∧ (if k = 0 then 1 else 0) ≤ v ∧ v ≤ (if k = 0 then 3 else if k = 1 then 2 else 1))) : MC yX9_set cX9_set 4 (some .int) 4 3 20 [.int (iI k), .int (iI v)] g tx L (g.1 k) (chg g (newF (uZ g.1 k v))) tx L := fun A S h => by
  exact (c_X9_set h.1 h.2.1 hk hv).weak (fun r T q => q.elim (fun x => absurd hP x.1) (fun x => ⟨x.2.1, x.2.2.1, okW_chg h.2 (okF_set h.2.1.1 hP) (wlF_new _)⟩))
theorem m_begin {a b : Int} (hP : (0 ≤ a ∧ a ≤ 6) ∧ 0 ≤ b ∧ b ≤ 6) : MC yX9_begin cX9_begin 4 (some .int) 4 3 20 [.int (iI a), .int (iI b)] g tx L (g.1 6) (chg g (newF (uZ (uZ g.1 9 a) 10 b))) tx L := fun A S h => by
  exact (c_X9_begin h.1 h.2.1 (a := a) (b := b) (by omega) (by omega)).weak (fun r T q => q.elim (fun x => absurd hP x.1) (fun x => ⟨x.2.1, x.2.2.1, okW_chg h.2 (okF_begin h.2.1.1 hP) (wlF_new _)⟩))
theorem m_round {b a : Int} (hb : 0 ≤ b ∧ b ≤ 14) (ha : 0 ≤ a ∧ a ≤ 14) (hal : alF g.1 b a) : MC yX9_round cX9_round 3 (some .int) 4 3 20 [.int (iI b), .int (iI a)] g tx L (tkF g.1 b a) (chg g (plF g.1 b a)) tx L := fun A S h => by
  exact (c_X9_round h.1 h.2.1 (b := b) (a := a) (by omega) (by omega)).weak (fun r T q => q.elim (fun x => absurd ⟨⟨hb, ha⟩, hal⟩ x.1) (fun x => ⟨x.2.1, x.2.2.1, okW_chg h.2 (okF_pl h.2.1.1 hb.1 ha.1 hal) (wlF_pl h.2.1.1 h.2.2.1 b a)⟩))
theorem m_roundX {b a : Int} (hb : 0 ≤ b ∧ b ≤ 14) (ha : 0 ≤ a ∧ a ≤ 14) (hal : ¬ alF g.1 b a) : MC yX9_round cX9_round 3 (some .int) 4 3 20 [.int (iI b), .int (iI a)] g tx L (-1005) g tx L := fun A S h => by
  have e : (if ((0 ≤ b ∧ b ≤ 14) ∧ (0 ≤ a ∧ a ≤ 14)) then (-1005 : Int) else -1002) = -1005 := if_pos ⟨hb, ha⟩
  have c := c_X9_round h.1 h.2.1 (b := b) (a := a) (by omega) (by omega)
  rw [e] at c
  exact (c).weak (fun r T q => q.elim (fun x => ⟨x.2.1, by rw [x.2.2]; exact h⟩) (fun x => absurd x.1 (fun z => hal z.2)))
theorem m_play (hw : winF g.1 = -1006) : MC yX9_play cX9_play 4 (some .int) 9 7 1323 [] g tx L (tkF g.1 (fbF g.1) (faF g.1 (fbF g.1))) (chg g (plF g.1 (fbF g.1) (faF g.1 (fbF g.1)))) tx L := fun A S h => by
  have hb := fbF_b h.2.1.1
  have ha := faF_b h.2.1.1 (fbF g.1)
  exact (c_X9_play h.1 h.2.1 (XT_R h)).weak (fun r T q => q.elim (fun x => absurd hw x.1) (fun x => ⟨x.2.1, x.2.2.1, okW_chg h.2 (okF_pl h.2.1.1 hb.1 ha.1 ⟨hw, hb.2, ha.2⟩) (wlF_pl h.2.1.1 h.2.2.1 _ _)⟩))
theorem m_playX (hw : ¬ winF g.1 = -1006) : MC yX9_play cX9_play 4 (some .int) 9 7 1323 [] g tx L (-1005) g tx L := fun A S h => by
  exact (c_X9_play h.1 h.2.1 (XT_R h)).weak (fun r T q => q.elim (fun x => ⟨x.2.1, by rw [x.2.2]; exact h⟩) (fun x => absurd x.1 hw))
theorem pl_one {f : Int → Int} {b a : Int} (h : alF f b a) : plL f [(b, a)] = plF f b a ∧ plN f [(b, a)] = 1 := by
  have h : alD f b a := h
  constructor
  · show @ite _ (alD f b a) (Classical.propDecidable _) (plF f b a) f = plF f b a
    exact if_pos h
  · show @ite _ (alD f b a) (Classical.propDecidable _) (1 + 0) 0 = (1 : Int)
    rw [if_pos h]
    rfl
theorem m_run {b a : Int} (hb : 0 ≤ b ∧ b ≤ 14) (ha : 0 ≤ a ∧ a ≤ 14) (hal : alF g.1 b a) (hR : Rd tx L 0 [(b, a)]) (hf : dfa tx L 0 0 0 = -1006) : MC yX9_run cX9_run 2 (some .int) 5 3 20 [] g tx L (1) (chg g (plF g.1 b a)) tx 0 := fun A S h => by
  have c := c_X9_run h.1 h.2.1 (R := [(b, a)]) rfl (fun _ => hR) (by omega)
  rw [(pl_one hal).1, (pl_one hal).2] at c
  exact (c).weak (fun r T q => q.elim (fun x => absurd hf x.1) (fun x => ⟨x.2.1, x.2.2.1, okW_chg h.2 (okF_pl h.2.1.1 hb.1 ha.1 hal) (wlF_pl h.2.1.1 h.2.2.1 b a)⟩))
theorem csF_1 {x : Nat} (h : 33 ≤ x ∧ x ≤ 126) : csF 8 0 x = 1 := by
  have h1 : x % 256 = x := Nat.mod_eq_of_lt (by omega)
  have h2 : x / 256 = 0 := Nat.div_eq_of_lt (by omega)
  show (if x = 0 then ((0 : Nat) : Int) else if x % 256 < 33 ∨ 126 < x % 256 then 0 else csF 7 (0 + 1) (x / 256)) = 1
  rw [if_neg (by omega), h1, if_neg (by omega), h2]
  rfl
theorem m_put {x : Nat} (hx : 33 ≤ x ∧ x ≤ 126) (hL : L < 60) : MC yX9_put cX9_put 4 (some .int) 1 0 0 [.long (lN x)] g tx L ((L : Int) + 1) g (apF tx L 1 x 1) (L + 1) := fun A S h => by
  have c := c_X9_put h.1 h.2.1 (x := x) (by omega) rfl
  rw [csF_1 hx] at c
  exact c.weak (fun r T q => q.elim (fun x => absurd ⟨by decide, by omega⟩ x.1) (fun x => ⟨x.2.1, x.2.2.1, h.2⟩))
theorem m_wipe  : MC yX9_wipe cX9_wipe 2 (some .int) 1 0 0 [] g tx L ((L : Int)) g tx 0 := fun A S h => by
  exact (c_X9_wipe h.1 h.2.1 rfl).weak (fun r T q => ⟨q.1, q.2.1, h.2⟩)
theorem m_undo (hn : 0 < g.2.2.2.2.2.1) : MC yX9_undo cX9_undo 1 (some .int) 3 0 0 [] g tx L ((g.2.2.2.2.2.1 : Int) - 1) (und g) tx L := fun A S h => by
  exact (c_X9_undo h.1 h.2.1).weak (fun r T q => q.elim (fun x => absurd hn x.1) (fun x => ⟨x.2.1, x.2.2.1, okW_und h.2 hn⟩))
theorem m_save0  : MC yX9_save cX9_save 3 (some .int) 3 0 0 [.int (iI 0)] g tx L (g.1 6) (sv0 g) tx L := fun A S h => by
  obtain ⟨o1, o2, o3, o4, o5⟩ := id h.2
  exact (c_X9_save0 h.1 h.2.1).weak (fun r T q => ⟨q.1, q.2.1, ⟨o1.1, Or.inr rfl, o1.2.2.1, fun _ => o1.1, o1.2.2.2.2.1, o1.2.2.2.2.2⟩, o2, fun _ => o2, o4, o5⟩)
theorem m_save1  : MC yX9_save cX9_save 3 (some .int) 3 0 0 [.int (iI 1)] g tx L (g.1 6) (sv1 g) tx L := fun A S h => by
  obtain ⟨o1, o2, o3, o4, o5⟩ := id h.2
  exact (c_X9_save1 h.1 h.2.1).weak (fun r T q => ⟨q.1, q.2.1, ⟨o1.1, o1.2.1, Or.inr rfl, o1.2.2.2.1, fun _ => o1.1, o1.2.2.2.2.2⟩, o2, o3, fun _ => o2, o5⟩)
theorem m_restore0 (hb : g.2.2.2.1 = 1) : MC yX9_restore cX9_restore 3 (some .int) 4 3 20 [.int (iI 0)] g tx L (g.2.1 6) (chg g g.2.1) tx L := fun A S h => by
  exact (c_X9_restore0 h.1 h.2.1).weak (fun r T q => q.elim (fun x => absurd hb x.1) (fun x => ⟨x.2.1, x.2.2.1, okW_chg h.2 (h.2.1.2.2.2.1 hb) (h.2.2.2.1 hb)⟩))
theorem m_restore0X (hb : ¬ g.2.2.2.1 = 1) : MC yX9_restore cX9_restore 3 (some .int) 4 3 20 [.int (iI 0)] g tx L (-1005) g tx L := fun A S h => by
  exact (c_X9_restore0 h.1 h.2.1).weak (fun r T q => q.elim (fun x => ⟨x.2.1, by rw [x.2.2]; exact h⟩) (fun x => absurd x.1 hb))
theorem m_restore1 (hb : g.2.2.2.2.1 = 1) : MC yX9_restore cX9_restore 3 (some .int) 4 3 20 [.int (iI 1)] g tx L (g.2.2.1 6) (chg g g.2.2.1) tx L := fun A S h => by
  exact (c_X9_restore1 h.1 h.2.1).weak (fun r T q => q.elim (fun x => absurd hb x.1) (fun x => ⟨x.2.1, x.2.2.1, okW_chg h.2 (h.2.1.2.2.2.2.1 hb) (h.2.2.2.2.1 hb)⟩))
theorem m_restore1X (hb : ¬ g.2.2.2.2.1 = 1) : MC yX9_restore cX9_restore 3 (some .int) 4 3 20 [.int (iI 1)] g tx L (-1005) g tx L := fun A S h => by
  exact (c_X9_restore1 h.1 h.2.1).weak (fun r T q => q.elim (fun x => ⟨x.2.1, by rw [x.2.2]; exact h⟩) (fun x => absurd x.1 hb))
end MCS
/-- two objects in one pool -/
def P2 (S : pS) (A B : Nat → Nat) (g : GS) (tx : Int → Int) (L : Nat) (g2 : GS) (tx2 : Int → Int) (L2 : Nat) : Prop := ∃ SA SB, S = pv SA SB ∧ dj SA SB ∧ XT SA A g tx L ∧ XT SB B g2 tx2 L2
section P2S
variable {S : pS} {A B : Nat → Nat} {g g2 g' g2' : GS} {tx tx2 tx' tx2' : Int → Int} {L L2 L' L2' : Nat} {z : Int} {y : MethodName} {cc : ByteArray} {nL : Nat} {rt : Option FieldType} {d mc ms : Nat} {as : List Value}
theorem P2.s (h : P2 S A B g tx L g2 tx2 L2) : P2 S B A g2 tx2 L2 g tx L := by
  obtain ⟨SA, SB, rfl, hd, hA, hB⟩ := h
  exact ⟨SB, SA, pv_sw hd, hd.sw, hB, hA⟩
theorem P2.a0 (h : P2 S A B g tx L g2 tx2 L2) : ∃ fs, S (A 0) = some (oO 9 fs) := by
  obtain ⟨SA, SB, rfl, hd, hA, hB⟩ := h
  obtain ⟨fs, h0⟩ := XT_0 hA
  exact ⟨fs, pv_l h0⟩
theorem P2.oa (h : P2 S A B g tx L g2 tx2 L2) : okW g := by
  obtain ⟨SA, SB, rfl, hd, hA, hB⟩ := h
  exact hA.2
theorem P2.la (h : P2 S A B g tx L g2 tx2 L2) : L ≤ 60 := by
  obtain ⟨SA, SB, rfl, hd, hA, hB⟩ := h
  exact (XT_pad hA).2.1
theorem P2.a (h : P2 S A B g tx L g2 tx2 L2) (hM : MC y cc nL rt d mc ms as g tx L z g' tx' L') : Ct y cc nL rt d mc ms (.ref (A 0) :: as) S (kIS z (fun T => P2 T A B g' tx' L' g2 tx2 L2)) := by
  obtain ⟨SA, SB, rfl, hd, hA, hB⟩ := h
  exact ((hM A SA hA).frame hd).weak (fun r T q => by
    obtain ⟨T1, ⟨q1, q2⟩, q3, rfl⟩ := q
    exact ⟨q1, T1, SB, rfl, q3, q2, hB⟩)
theorem P2.b (h : P2 S A B g tx L g2 tx2 L2) (hM : MC y cc nL rt d mc ms as g2 tx2 L2 z g2' tx2' L2') : Ct y cc nL rt d mc ms (.ref (B 0) :: as) S (kIS z (fun T => P2 T A B g tx L g2' tx2' L2')) :=
  (h.s.a hM).weak (fun r T q => ⟨q.1, q.2.s⟩)
end P2S
section JX
variable {y : MethodName} {cc : ByteArray} {nL : Nat} {rt : Option FieldType} {d tc ts : Nat} {K : Option Value → pS → Prop} {c0 s0 : Nat} {S : pS} {pc : Nat} {L : List (Option Value)} {st : List Value}
variable {y1 : MethodName} {cc1 : ByteArray} {nL1 : Nat} {rt1 : Option FieldType} {d1 mc ms n : Nat} {As : List Value} {pc1 ix N : Nat} {T9 : u_T} {stk : List Value} {A B : Nat → Nat} {g g2 g' g2' : GS} {tx tx2 tx' tx2' : Int → Int} {l l2 l' l2' : Nat} {z : Int}
theorem J_mX (hG : GoodIn wsU (wsV y.cls ix RX9 y1 (.code y1 cc1 nL1 rt1 :: wsU))) (hy : y1.cls = RX9 ∧ y1.cls ≠ "java/lang/invoke/MethodHandle" ∧ y1.cls ≠ "java/lang/invoke/VarHandle" ∧ (parseMethodDescriptor y1.desc).map (fun d => d.parameters.length) = some n) (hX : XT S A g tx l) (hM : MC y1 cc1 nL1 rt1 d1 mc ms As g tx l z g' tx' l') (hd : decode cc pc = .ok (.invokevirtual ix, 3)) (hp : pc + 3 = pc1) (hst : stk = As.reverse ++ .ref (A 0) :: st) (hn : As.length = n) (hdd : d1 + 1 ≤ d) (hnl : nL1 ≤ 21) (hcc : c0 + mc ≤ tc) (hss : s0 + ms ≤ ts) (hrm : (st.map fun v => v.category).sum ≤ 8) (k : ∀ S1, XT S1 A g' tx' l' → Jd y cc nL rt d tc ts K (c0 + mc) (s0 + ms) S1 pc1 L (.int (iI z) :: st)) : Jd y cc nL rt d tc ts K c0 s0 S pc L stk := by
  obtain ⟨fs, h0⟩ := XT_0 hX
  exact J_callVIs hG hy (ci := 9) rfl (hM A S hX) hd hp h0 hst hn hdd hnl hcc hss hrm k
theorem J_sX (hG : GoodIn wsU (wsS y.cls ix y1 (.code y1 cc1 nL1 rt1 :: wsU))) (hy : y1.cls = y.cls ∧ y1.cls ≠ "java/lang/invoke/MethodHandle" ∧ y1.cls ≠ "java/lang/invoke/VarHandle" ∧ (parseMethodDescriptor y1.desc).map (fun d => d.parameters.length) = some n) (hX : XT S A g tx l) (hM : MC y1 cc1 nL1 rt1 d1 mc ms As g tx l z g' tx' l') (hd : decode cc pc = .ok (.invokestatic ix, 3)) (hp : pc + 3 = pc1) (hst : stk = (.ref (A 0) :: As).reverse ++ st) (hn : As.length + 1 = n) (hdd : d1 + 1 ≤ d) (hnl : nL1 ≤ 21) (hcc : c0 + mc ≤ tc) (hss : s0 + ms ≤ ts) (hrm : (st.map fun v => v.category).sum ≤ 8) (k : ∀ S1, XT S1 A g' tx' l' → Jd y cc nL rt d tc ts K (c0 + mc) (s0 + ms) S1 pc1 L (.int (iI z) :: st)) : Jd y cc nL rt d tc ts K c0 s0 S pc L stk := J_callSIs hG hy (hM A S hX) hd hp hst hn hdd hnl hcc hss hrm k
theorem J_mA (hG : GoodIn wsU (wsV y.cls ix RX9 y1 (.code y1 cc1 nL1 rt1 :: wsU))) (hy : y1.cls = RX9 ∧ y1.cls ≠ "java/lang/invoke/MethodHandle" ∧ y1.cls ≠ "java/lang/invoke/VarHandle" ∧ (parseMethodDescriptor y1.desc).map (fun d => d.parameters.length) = some n) (hX : P2 S A B g tx l g2 tx2 l2) (hM : MC y1 cc1 nL1 rt1 d1 mc ms As g tx l z g' tx' l') (hd : decode cc pc = .ok (.invokevirtual ix, 3)) (hp : pc + 3 = pc1) (hst : stk = As.reverse ++ .ref (A 0) :: st) (hn : As.length = n) (hdd : d1 + 1 ≤ d) (hnl : nL1 ≤ 21) (hcc : c0 + mc ≤ tc) (hss : s0 + ms ≤ ts) (hrm : (st.map fun v => v.category).sum ≤ 8) (k : ∀ S1, P2 S1 A B g' tx' l' g2 tx2 l2 → Jd y cc nL rt d tc ts K (c0 + mc) (s0 + ms) S1 pc1 L (.int (iI z) :: st)) : Jd y cc nL rt d tc ts K c0 s0 S pc L stk := by
  obtain ⟨fs, h0⟩ := hX.a0
  exact J_callVIs hG hy (ci := 9) rfl (hX.a hM) hd hp h0 hst hn hdd hnl hcc hss hrm k
theorem J_sA (hG : GoodIn wsU (wsS y.cls ix y1 (.code y1 cc1 nL1 rt1 :: wsU))) (hy : y1.cls = y.cls ∧ y1.cls ≠ "java/lang/invoke/MethodHandle" ∧ y1.cls ≠ "java/lang/invoke/VarHandle" ∧ (parseMethodDescriptor y1.desc).map (fun d => d.parameters.length) = some n) (hX : P2 S A B g tx l g2 tx2 l2) (hM : MC y1 cc1 nL1 rt1 d1 mc ms As g tx l z g' tx' l') (hd : decode cc pc = .ok (.invokestatic ix, 3)) (hp : pc + 3 = pc1) (hst : stk = (.ref (A 0) :: As).reverse ++ st) (hn : As.length + 1 = n) (hdd : d1 + 1 ≤ d) (hnl : nL1 ≤ 21) (hcc : c0 + mc ≤ tc) (hss : s0 + ms ≤ ts) (hrm : (st.map fun v => v.category).sum ≤ 8) (k : ∀ S1, P2 S1 A B g' tx' l' g2 tx2 l2 → Jd y cc nL rt d tc ts K (c0 + mc) (s0 + ms) S1 pc1 L (.int (iI z) :: st)) : Jd y cc nL rt d tc ts K c0 s0 S pc L stk := J_callSIs hG hy (hX.a hM) hd hp hst hn hdd hnl hcc hss hrm k
theorem J_mB (hG : GoodIn wsU (wsV y.cls ix RX9 y1 (.code y1 cc1 nL1 rt1 :: wsU))) (hy : y1.cls = RX9 ∧ y1.cls ≠ "java/lang/invoke/MethodHandle" ∧ y1.cls ≠ "java/lang/invoke/VarHandle" ∧ (parseMethodDescriptor y1.desc).map (fun d => d.parameters.length) = some n) (hX : P2 S A B g tx l g2 tx2 l2) (hM : MC y1 cc1 nL1 rt1 d1 mc ms As g2 tx2 l2 z g2' tx2' l2') (hd : decode cc pc = .ok (.invokevirtual ix, 3)) (hp : pc + 3 = pc1) (hst : stk = As.reverse ++ .ref (B 0) :: st) (hn : As.length = n) (hdd : d1 + 1 ≤ d) (hnl : nL1 ≤ 21) (hcc : c0 + mc ≤ tc) (hss : s0 + ms ≤ ts) (hrm : (st.map fun v => v.category).sum ≤ 8) (k : ∀ S1, P2 S1 A B g tx l g2' tx2' l2' → Jd y cc nL rt d tc ts K (c0 + mc) (s0 + ms) S1 pc1 L (.int (iI z) :: st)) : Jd y cc nL rt d tc ts K c0 s0 S pc L stk := by
  obtain ⟨fs, h0⟩ := hX.s.a0
  exact J_callVIs hG hy (ci := 9) rfl (hX.b hM) hd hp h0 hst hn hdd hnl hcc hss hrm k
theorem J_sB (hG : GoodIn wsU (wsS y.cls ix y1 (.code y1 cc1 nL1 rt1 :: wsU))) (hy : y1.cls = y.cls ∧ y1.cls ≠ "java/lang/invoke/MethodHandle" ∧ y1.cls ≠ "java/lang/invoke/VarHandle" ∧ (parseMethodDescriptor y1.desc).map (fun d => d.parameters.length) = some n) (hX : P2 S A B g tx l g2 tx2 l2) (hM : MC y1 cc1 nL1 rt1 d1 mc ms As g2 tx2 l2 z g2' tx2' l2') (hd : decode cc pc = .ok (.invokestatic ix, 3)) (hp : pc + 3 = pc1) (hst : stk = (.ref (B 0) :: As).reverse ++ st) (hn : As.length + 1 = n) (hdd : d1 + 1 ≤ d) (hnl : nL1 ≤ 21) (hcc : c0 + mc ≤ tc) (hss : s0 + ms ≤ ts) (hrm : (st.map fun v => v.category).sum ≤ 8) (k : ∀ S1, P2 S1 A B g tx l g2' tx2' l2' → Jd y cc nL rt d tc ts K (c0 + mc) (s0 + ms) S1 pc1 L (.int (iI z) :: st)) : Jd y cc nL rt d tc ts K c0 s0 S pc L stk := J_callSIs hG hy (hX.b hM) hd hp hst hn hdd hnl hcc hss hrm k
theorem J_ishr {a b : Int32} (hd : decode cc pc = .ok (.ishr, 1)) (hp : pc + 1 = pc1) (k : Jd y cc nL rt d tc ts K c0 s0 S pc1 L (.int (a >>> (b &&& 31)) :: st)) : Jd y cc nL rt d tc ts K c0 s0 S pc L (.int b :: .int a :: st) := by
  intro p l e R s m args below meth c D q A Q C hR H locs ls hP hS hl
  have C0 := C
  obtain ⟨hx, hb, hml, hown, hts, hrt, hlk, hini, hKK, hA, hdf, hdl, htc, hts2⟩ := C
  subst hp
  exact lv_ishr hx hb hd (k p l e R s m args below meth c D q A Q C0 hR H locs ls hP hS hl)
theorem J_ldc {v : Int32} (hw : Cond.constant y.cls ix v ∈ wsU) (hd : decode cc pc = .ok (.ldc ix, 2)) (hp : pc + 2 = pc1) (k : Jd y cc nL rt d tc ts K c0 s0 S pc1 L (.int v :: st)) : Jd y cc nL rt d tc ts K c0 s0 S pc L st := by
  intro p l e R s m args below meth c D q A Q C hR H locs ls hP hS hl
  have C0 := C
  obtain ⟨hx, hb, hml, hown, hts, hrt, hlk, hini, hKK, hA, hdf, hdl, htc, hts2⟩ := C
  subst hp
  exact lv_ldc hx hb hown (hts _ hw) hd (k p l e R s m args below meth c D q A Q C0 hR H locs ls hP hS hl)
theorem J_neS {off : Int} {tgt : Nat} {a b : Int} (hd : decode cc pc = .ok (.if_icmp .ne off, 3)) (ht : (pc : Int) + off = (tgt : Int)) (hp : pc + 3 = pc1) (hab : a = b) (k : Jd y cc nL rt d tc ts K c0 s0 S pc1 L st) : Jd y cc nL rt d tc ts K c0 s0 S pc L (.int (iI b) :: .int (iI a) :: st) := by
  subst hab
  intro p l e R s m args below meth c D q A Q C hR H locs ls hP hS hl
  have C0 := C
  obtain ⟨hx, hb, hml, hown, hts, hrt, hlk, hini, hKK, hA, hdf, hdl, htc, hts2⟩ := C
  subst hp
  exact lv_icmp_ne hx hb hd ht (fun h9 => absurd rfl h9) (fun _ => k p l e R s m args below meth c D q A Q C0 hR H locs ls hP hS hl)
theorem J_w {c1 s1 : Nat} (hc1 : c0 ≤ c1) (hs1 : s0 ≤ s1) (k : Jd y cc nL rt d tc ts K c1 s1 S pc L st) : Jd y cc nL rt d tc ts K c0 s0 S pc L st := J_widen hc1 hs1 k
end JX
