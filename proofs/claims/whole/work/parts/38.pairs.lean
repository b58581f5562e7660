/-! 38.pairs: each call of both objects -/
theorem okF_new {g : Int → Int} (h0 : 1 ≤ g 0 ∧ g 0 ≤ 3) (h1 : 0 ≤ g 1 ∧ g 1 ≤ 2) (h2 : g 2 = 0 ∨ g 2 = 1) (h3 : g 3 = 0 ∨ g 3 = 1) (h9 : 0 ≤ g 9 ∧ g 9 ≤ 6) (h10 : 0 ≤ g 10 ∧ g 10 ≤ 6) (h18 : g 18 = g 15 + g 16) : okF (newF g) := by
  have a0 : newF g 0 = g 0 := rfl
  have a1 : newF g 1 = g 1 := rfl
  have a2 : newF g 2 = g 2 := rfl
  have a3 : newF g 3 = g 3 := rfl
  have a4 : newF g 4 = 0 := rfl
  have a5 : newF g 5 = 0 := rfl
  have a7 : newF g 7 = g 9 := rfl
  have a8 : newF g 8 = g 10 := rfl
  have a9 : newF g 9 = g 9 := rfl
  have a10 : newF g 10 = g 10 := rfl
  have a15 : newF g 15 = g 15 := rfl
  have a16 : newF g 16 = g 16 := rfl
  have a18 : newF g 18 = g 18 := rfl
  unfold okF
  rw [a0, a1, a2, a3, a4, a5, a7, a8, a9, a10, a15, a16, a18]
  exact ⟨h0, h1, h2, h3, by omega, Or.inl rfl, by omega, h9, h10, by omega, fun _ => by omega, h18⟩
theorem okF_set {f : Int → Int} (ok : okF f) {k v : Int} (hp : (0 ≤ k ∧ k ≤ 3) ∧ (if k = 0 then 1 else 0) ≤ v ∧ v ≤ (if k = 0 then 3 else if k = 1 then 2 else 1)) : okF (newF (uZ f k v)) := by
  obtain ⟨o0, o1, o2, o3, o4, o5, o7, o9, o10, o12, o13, o18⟩ := ok
  obtain ⟨hk, h1, h2⟩ := hp
  rcases (show k = 0 ∨ k = 1 ∨ k = 2 ∨ k = 3 by omega) with rfl | rfl | rfl | rfl
  · have e1 : 1 ≤ v := h1
    have e2 : v ≤ 3 := h2
    exact okF_new (g := uZ f 0 v) ⟨e1, e2⟩ o1 o2 o3 o9 o10 o18
  · have e1 : 0 ≤ v := h1
    have e2 : v ≤ 2 := h2
    exact okF_new (g := uZ f 1 v) o0 ⟨e1, e2⟩ o2 o3 o9 o10 o18
  · have e1 : 0 ≤ v := h1
    have e2 : v ≤ 1 := h2
    exact okF_new (g := uZ f 2 v) o0 o1 (show v = 0 ∨ v = 1 by omega) o3 o9 o10 o18
  · have e1 : 0 ≤ v := h1
    have e2 : v ≤ 1 := h2
    exact okF_new (g := uZ f 3 v) o0 o1 o2 (show v = 0 ∨ v = 1 by omega) o9 o10 o18
theorem okF_begin {f : Int → Int} (ok : okF f) {a b : Int} (hp : (0 ≤ a ∧ a ≤ 6) ∧ 0 ≤ b ∧ b ≤ 6) : okF (newF (uZ (uZ f 9 a) 10 b)) := by
  obtain ⟨o0, o1, o2, o3, o4, o5, o7, o9, o10, o12, o13, o18⟩ := ok
  exact okF_new (g := uZ (uZ f 9 a) 10 b) o0 o1 o2 o3 hp.1 hp.2 o18
theorem okF_ll : ∀ (R : List (Int × Int)) {f : Int → Int}, okF f → (∀ r ∈ R, 0 ≤ r.1 ∧ 0 ≤ r.2) → okF (plL f R) := by
  intro R
  induction R with
  | nil => intro f ok _; exact ok
  | cons r R ih =>
    intro f ok h
    have h0 := h r List.mem_cons_self
    rcases Classical.em (alD f r.1 r.2) with hal | hal
    · have e : plL f (r :: R) = plL (plF f r.1 r.2) R := if_pos hal
      rw [e]
      exact ih (okF_pl ok h0.1 h0.2 hal) (fun q hq => h q (List.mem_cons_of_mem _ hq))
    · have e : plL f (r :: R) = f := if_neg hal
      rw [e]
      exact ok
theorem Rd_b {tx : Int → Int} {L : Nat} : ∀ (R : List (Int × Int)) (i : Nat), Rd tx L i R → ∀ r ∈ R, 0 ≤ r.1 ∧ 0 ≤ r.2 := by
  intro R
  induction R with
  | nil => intro i h; exact absurd h id
  | cons r R ih =>
    intro i h q hq
    obtain ⟨j, k, h1, h2, h3, h4, h5, h6⟩ := h
    rcases List.mem_cons.mp hq with rfl | hq
    · exact ⟨(Bd_b h1).1, (Bd_b h4).1⟩
    · rcases h6 with ⟨rfl, -⟩ | ⟨-, -, h9⟩
      · exact absurd hq List.not_mem_nil
      · exact ih _ h9 q hq
theorem pF_b {tx : Int → Int} {L : Nat} (hL : L ≤ 60) : ∀ (m i : Nat), i ≤ L → -2000 ≤ pF tx L m i ∧ pF tx L m i ≤ 2000 := by
  intro m
  induction m with
  | zero =>
    intro i hi
    have e : pF tx L 0 i = (i : Int) := rfl
    rw [e]
    omega
  | succ m ih =>
    intro i hi
    by_cases ok : okRd tx L i
    · have hb := okRd_b ok
      rw [pF_ok ok]
      split
      · exact ih _ (by omega)
      · split <;> omega
    · rw [pF_no ok]
      have hb : bdN tx L i ≤ 2 := by rcases bdN_c tx L i with ⟨e, _⟩ | ⟨e, _⟩ | ⟨e, _⟩ <;> omega
      unfold fR e1R
      split <;> omega
/-- a call of both, its room within the dearest one's -/
def PRx (A B : Nat → Nat) (S : pS) (y1 : MethodName) (cc1 : ByteArray) (nL1 : Nat) (y2 : MethodName) (cc2 : ByteArray) (nL2 : Nat) (as : List Value) : Prop :=
  ∃ d1 mc ms d2 : Nat, d1 ≤ 15 ∧ mc ≤ 28 ∧ ms ≤ 9121 ∧ d2 ≤ 15 ∧ PR A B S y1 cc1 nL1 d1 mc ms y2 cc2 nL2 d2 as
theorem prx {A B : Nat → Nat} {S : pS} {y1 y2 : MethodName} {cc1 cc2 : ByteArray} {nL1 nL2 d1 d2 mc ms : Nat} {as : List Value} (h : PR A B S y1 cc1 nL1 d1 mc ms y2 cc2 nL2 d2 as) (h1 : d1 ≤ 15) (h2 : mc ≤ 28) (h3 : ms ≤ 9121) (h4 : d2 ≤ 15) : PRx A B S y1 cc1 nL1 y2 cc2 nL2 as := ⟨d1, mc, ms, d2, h1, h2, h3, h4, h⟩
section PAIRS
variable {A B : Nat → Nat} {S : pS}
theorem p_set (h : INV A B S) {k v : Int} (hk : -2147483648 ≤ k ∧ k < 2147483648) (hv : -2147483648 ≤ v ∧ v < 2147483648) : PRx A B S yX9_set cX9_set 4 yX10_set cX10_set 4 [.int (iI k), .int (iI v)] := by
  obtain ⟨f, f1, f2, b0, b1, n, H, tx, L, hX, hM, ok, h6⟩ := h
  exact prx (pr_KOR hX hM h6 ok (fun hp => okX_f (okX_keep ok) (okF_set ok.1 hp)) (c_X9_set hX ok hk hv) (fun T hT => c_X10_set hT ok hk hv)) (by decide) (by decide) (by decide) (by decide)
theorem p_begin (h : INV A B S) {a b : Int} (ha : -2147483648 ≤ a ∧ a < 2147483648) (hb : -2147483648 ≤ b ∧ b < 2147483648) : PRx A B S yX9_begin cX9_begin 4 yX10_begin cX10_begin 4 [.int (iI a), .int (iI b)] := by
  obtain ⟨f, f1, f2, b0, b1, n, H, tx, L, hX, hM, ok, h6⟩ := h
  exact prx (pr_KOR hX hM h6 ok (fun hp => okX_f (okX_keep ok) (okF_begin ok.1 hp)) (c_X9_begin hX ok ha hb) (fun T hT => c_X10_begin hT ok ha hb)) (by decide) (by decide) (by decide) (by decide)
theorem p_round (h : INV A B S) {b a : Int} (hb : -2147483648 ≤ b ∧ b < 2147483648) (ha : -2147483648 ≤ a ∧ a < 2147483648) : PRx A B S yX9_round cX9_round 3 yX10_round cX10_round 3 [.int (iI b), .int (iI a)] := by
  obtain ⟨f, f1, f2, b0, b1, n, H, tx, L, hX, hM, ok, h6⟩ := h
  exact prx (pr_KOR hX hM h6 ok (fun hp => okX_f (okX_keep ok) (okF_pl ok.1 hp.1.1.1 hp.1.2.1 hp.2)) (c_X9_round hX ok hb ha) (fun T hT => c_X10_round hT ok hb ha)) (by decide) (by decide) (by decide) (by decide)
theorem p_play (h : INV A B S) : PRx A B S yX9_play cX9_play 4 yX10_play cX10_play 3 [] := by
  obtain ⟨f, f1, f2, b0, b1, n, H, tx, L, hX, hM, ok, h6⟩ := h
  have hR := RX_INV hX hM
  have hb := fbF_b ok.1
  have ha := faF_b ok.1 (fbF f)
  exact prx (pr_KOR hX hM h6 ok (fun hp => okX_f (okX_keep ok) (okF_pl ok.1 hb.1 ha.1 ⟨hp, hb.2, ha.2⟩)) (c_X9_play hX ok hR) (fun T hT => c_X10_play hT ok)) (by decide) (by decide) (by decide) (by decide)
theorem p_run (h : INV A B S) : PRx A B S yX9_run cX9_run 2 yX10_run cX10_run 3 [] := by
  obtain ⟨f, f1, f2, b0, b1, n, H, tx, L, hX, hM, ok, h6⟩ := h
  have hp := XS_pad hX
  have e0 : pF tx L (L + 1) 0 = dfa tx L 0 0 0 := pF_dfa (L + 1) 0 (by omega) (by omega)
  have hdb := pF_b (tx := tx) hp.2.1 (L + 1) 0 (by omega)
  rw [e0] at hdb
  have hRd : dfa tx L 0 0 0 = -1006 → Rd tx L 0 (pL tx L (L + 1) 0) := fun q => pF_Rd (L + 1) 0 (by rw [e0]; exact q)
  exact prx (pr_KOM hX hM h6 ok (fun q => okX_f (okX_keep ok) (okF_ll _ ok.1 (Rd_b _ _ (hRd q)))) (c_X9_run hX ok (Or.inl rfl) hRd hdb) (fun T hT => c_X10_run hT ok hp.2.1 hp.2.2 hdb)) (by decide) (by decide) (by decide) (by decide)
theorem p_player (h : INV A B S) {p w : Int} (hp : -2147483648 ≤ p ∧ p < 2147483648) (hw : -2147483648 ≤ w ∧ w < 2147483648) : PRx A B S yX9_player cX9_player 5 yX10_player cX10_player 3 [.int (iI p), .int (iI w)] := by
  obtain ⟨f, f1, f2, b0, b1, n, H, tx, L, hX, hM, ok, h6⟩ := h
  have hR := RX_INV hX hM
  by_cases h0 : p = 0
  · subst h0
    exact prx (pr_IS hX hM h6 ok (c_X9_player0 hX ok hw hR) (fun T hT => c_X10_player hT ok hp hw)) (by decide) (by decide) (by decide) (by decide)
  by_cases h1 : p = 1
  · subst h1
    exact prx (pr_IS hX hM h6 ok (c_X9_player1 hX ok hw hR) (fun T hT => c_X10_player hT ok hp hw)) (by decide) (by decide) (by decide) (by decide)
  exact prx (pr_IS hX hM h6 ok (c_X9_playerN hX ok hp hw (fun z => z.elim h0 h1)) (fun T hT => c_X10_player hT ok hp hw)) (by decide) (by decide) (by decide) (by decide)
theorem p_count (h : INV A B S) {w : Int} (hw : -2147483648 ≤ w ∧ w < 2147483648) : PRx A B S yX9_count cX9_count 2 yX10_count cX10_count 2 [.int (iI w)] := by
  obtain ⟨f, f1, f2, b0, b1, n, H, tx, L, hX, hM, ok, h6⟩ := h
  exact prx (pr_IS hX hM h6 ok (c_X9_count hX ok hw) (fun T hT => c_X10_count hT ok hw)) (by decide) (by decide) (by decide) (by decide)
theorem p_forced (h : INV A B S) {p r : Int} (hp : -2147483648 ≤ p ∧ p < 2147483648) (hr : -2147483648 ≤ r ∧ r < 2147483648) : PRx A B S yX9_forced cX9_forced 3 yX10_forced cX10_forced 3 [.int (iI p), .int (iI r)] := by
  obtain ⟨f, f1, f2, b0, b1, n, H, tx, L, hX, hM, ok, h6⟩ := h
  have hR := RX_INV hX hM
  exact prx (pr_IS hX hM h6 ok (c_X9_forced hX ok hp hr hR) (fun T hT => c_X10_forced hT ok hp hr)) (by decide) (by decide) (by decide) (by decide)
theorem p_ahead (h : INV A B S) {p r : Int} (hp : -2147483648 ≤ p ∧ p < 2147483648) (hr : -2147483648 ≤ r ∧ r < 2147483648) : PRx A B S yX9_ahead cX9_ahead 3 yX10_ahead cX10_ahead 3 [.int (iI p), .int (iI r)] := by
  obtain ⟨f, f1, f2, b0, b1, n, H, tx, L, hX, hM, ok, h6⟩ := h
  exact prx (pr_IS hX hM h6 ok (c_X9_ahead hX ok hp hr) (fun T hT => c_X10_ahead hT ok hp hr)) (by decide) (by decide) (by decide) (by decide)
theorem p_bestBid (h : INV A B S) : PRx A B S yX9_bestBid cX9_bestBid 1 yX10_bestBid cX10_bestBid 8 [] := by
  obtain ⟨f, f1, f2, b0, b1, n, H, tx, L, hX, hM, ok, h6⟩ := h
  have hR := RX_INV hX hM
  exact prx (pr_IS hX hM h6 ok (c_X9_bestBid hX ok hR) (fun T hT => c_X10_bestBid hT ok)) (by decide) (by decide) (by decide) (by decide)
theorem p_bestAnswer (h : INV A B S) {b : Int} (hb : -2147483648 ≤ b ∧ b < 2147483648) : PRx A B S yX9_bestAnswer cX9_bestAnswer 2 yX10_bestAnswer cX10_bestAnswer 2 [.int (iI b)] := by
  obtain ⟨f, f1, f2, b0, b1, n, H, tx, L, hX, hM, ok, h6⟩ := h
  have hR := RX_INV hX hM
  exact prx (pr_IS hX hM h6 ok (c_X9_bestAnswer hX ok hb hR) (fun T hT => c_X10_bestAnswer hT ok hb)) (by decide) (by decide) (by decide) (by decide)
theorem p_keeps (h : INV A B S) : PRx A B S yX9_keeps cX9_keeps 1 yX10_keeps cX10_keeps 3 [] := by
  obtain ⟨f, f1, f2, b0, b1, n, H, tx, L, hX, hM, ok, h6⟩ := h
  have hR := RX_INV hX hM
  exact prx (pr_IS hX hM h6 ok (c_X9_keeps hX ok hR) (fun T hT => c_X10_keeps hT ok)) (by decide) (by decide) (by decide) (by decide)
theorem p_leastHours (h : INV A B S) {p : Int} (hp : -2147483648 ≤ p ∧ p < 2147483648) : PRx A B S yX9_leastHours cX9_leastHours 3 yX10_leastHours cX10_leastHours 5 [.int (iI p)] := by
  obtain ⟨f, f1, f2, b0, b1, n, H, tx, L, hX, hM, ok, h6⟩ := h
  have hR := RX_INV hX hM
  exact prx (pr_IS hX hM h6 ok (c_X9_leastHours hX ok hp hR) (fun T hT => c_X10_leastHours hT ok hp)) (by decide) (by decide) (by decide) (by decide)
theorem p_put (h : INV A B S) {x : Nat} (hx : x < 2 ^ 64) : PRx A B S yX9_put cX9_put 4 yX10_put cX10_put 5 [.long (lN x)] := by
  obtain ⟨f, f1, f2, b0, b1, n, H, tx, L, hX, hM, ok, h6⟩ := h
  exact prx (pr_KOR hX hM h6 ok (fun _ => ok) (c_X9_put hX ok hx (Or.inl rfl)) (fun T hT => c_X10_put hT ok hx (XS_pad hX).2.1)) (by decide) (by decide) (by decide) (by decide)
theorem p_wipe (h : INV A B S) : PRx A B S yX9_wipe cX9_wipe 2 yX10_wipe cX10_wipe 2 [] := by
  obtain ⟨f, f1, f2, b0, b1, n, H, tx, L, hX, hM, ok, h6⟩ := h
  exact prx (pr_IS hX hM h6 ok (c_X9_wipe hX ok (Or.inl rfl)) (fun T hT => c_X10_wipe hT ok)) (by decide) (by decide) (by decide) (by decide)
theorem p_fault (h : INV A B S) : PRx A B S yX9_fault cX9_fault 1 yX10_fault cX10_fault 2 [] := by
  obtain ⟨f, f1, f2, b0, b1, n, H, tx, L, hX, hM, ok, h6⟩ := h
  have hp := XS_pad hX
  have hM9 := hM
  obtain ⟨hs, sl, sv, ti, to, ik, kr, ks, sp, nu, rd, W, z⟩ := hM
  refine prx (d1 := 2) (mc := 0) (ms := 0) (d2 := 4) ⟨_, c_X9_fault hX ok, fun r T h => ?_⟩ (by decide) (by decide) (by decide) (by decide)
  obtain ⟨rfl, rfl⟩ := h
  refine ⟨_, rfl, ⟨_, W.1⟩, _, c_X10_fault W hp.2.1 hp.2.2, fun r2 U h2 => ?_⟩
  obtain ⟨rfl, to2, nu2, rd2, i2, W2, fr, -⟩ := h2
  exact ⟨rfl, f, f1, f2, b0, b1, n, H, tx, L, XS_frM hX h6 hM9 fr, ⟨hs, sl, sv, ti, to2, ik, kr, ks, (i2 : Int), nu2, rd2, W2, z⟩, ok, h6⟩
theorem p_undo (h : INV A B S) : PRx A B S yX9_undo cX9_undo 1 yX10_undo cX10_undo 2 [] := by
  obtain ⟨f, f1, f2, b0, b1, n, H, tx, L, hX, hM, ok, h6⟩ := h
  exact prx (pr_KOR hX hM h6 ok (fun hp => ⟨ok.2.2.2.2.2.2 (n - 1) (by omega), ok.2.1, ok.2.2.1, ok.2.2.2.1, ok.2.2.2.2.1, by have := ok.2.2.2.2.2.1; omega, fun i hi => ok.2.2.2.2.2.2 i (by omega)⟩) (c_X9_undo hX ok) (fun T hT => c_X10_undo hT ok)) (by decide) (by decide) (by decide) (by decide)
theorem p_save (h : INV A B S) {s : Int} (hs : -2147483648 ≤ s ∧ s < 2147483648) : PRx A B S yX9_save cX9_save 3 yX10_save cX10_save 3 [.int (iI s)] := by
  obtain ⟨f, f1, f2, b0, b1, n, H, tx, L, hX, hM, ok, h6⟩ := h
  by_cases h0 : s = 0
  · subst h0
    have ok' : okX f (if 1 = 1 then f else f1) (if 1 = 2 then f else f2) (if 1 = 1 then 1 else b0) (if 1 = 2 then 1 else b1) n H := ⟨ok.1, Or.inr rfl, ok.2.2.1, fun _ => ok.1, ok.2.2.2.2.1, ok.2.2.2.2.2⟩
    exact prx (pr_IS hX hM h6 ok' (c_X9_save0 hX ok) (fun T hT => c_X10_save0 hT ok)) (by decide) (by decide) (by decide) (by decide)
  by_cases h1 : s = 1
  · subst h1
    have ok' : okX f (if 2 = 1 then f else f1) (if 2 = 2 then f else f2) (if 2 = 1 then 1 else b0) (if 2 = 2 then 1 else b1) n H := ⟨ok.1, ok.2.1, Or.inr rfl, ok.2.2.2.1, fun _ => ok.1, ok.2.2.2.2.2⟩
    exact prx (pr_IS hX hM h6 ok' (c_X9_save1 hX ok) (fun T hT => c_X10_save1 hT ok)) (by decide) (by decide) (by decide) (by decide)
  exact prx (pr_I hX hM h6 ok (c_X9_saveN hX ok hs (fun z => z.elim h0 h1)) (c_X10_saveN hs (fun z => z.elim h0 h1))) (by decide) (by decide) (by decide) (by decide)
theorem p_restore (h : INV A B S) {s : Int} (hs : -2147483648 ≤ s ∧ s < 2147483648) : PRx A B S yX9_restore cX9_restore 3 yX10_restore cX10_restore 3 [.int (iI s)] := by
  obtain ⟨f, f1, f2, b0, b1, n, H, tx, L, hX, hM, ok, h6⟩ := h
  by_cases h0 : s = 0
  · subst h0
    exact prx (pr_KOR hX hM h6 ok (fun hp => okX_f (okX_keep ok) (ok.2.2.2.1 hp)) (c_X9_restore0 hX ok) (fun T hT => c_X10_restore0 hT ok)) (by decide) (by decide) (by decide) (by decide)
  by_cases h1 : s = 1
  · subst h1
    exact prx (pr_KOR hX hM h6 ok (fun hp => okX_f (okX_keep ok) (ok.2.2.2.2.1 hp)) (c_X9_restore1 hX ok) (fun T hT => c_X10_restore1 hT ok)) (by decide) (by decide) (by decide) (by decide)
  exact prx (pr_I hX hM h6 ok (c_X9_restoreN hX ok hs (fun z => z.elim h0 h1)) (c_X10_restoreN hs (fun z => z.elim h0 h1))) (by decide) (by decide) (by decide) (by decide)
end PAIRS
