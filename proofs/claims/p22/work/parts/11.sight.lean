/-! 11.sight: Foresight -/
theorem fc_no {E ti ps : Int} {k : Nat} {tw o f b : Int} (h0 : ¬ tw ≤ 0) (ho : 0 ≤ o) (hf : 0 ≤ f) (hb : b = 0 ∨ b = 1) (h : (k : Int) < tw ∨ 2 * E ≤ tw) : ¬ fc E ti ps k tw o f b := by
  intro z
  rcases h with h | h
  · have := fc_far k tw o f b ho hf hb (fun x hx => gaE_nn ps hx) z
    omega
  · cases k with
    | zero => exact h0 z
    | succ k => rcases z with z | ⟨z, -⟩ <;> omega
def stA (ti ps : Int) (P : qP) (tw o f bid : Int) : Prop := ∀ ans, 0 ≤ ans → ans ≤ f → (fst ti bid ans → tkP ps P tw o f bid 0) ∧ (¬ fst ti bid ans → lsP ps P tw o f ans 0)
def hsA (ti ps : Int) (P : qP) (tw o f bid : Int) : Prop := ∃ ans, (0 ≤ ans ∧ ans ≤ o) ∧ (fst ti bid ans → lsP ps P tw o f bid 1) ∧ (¬ fst ti bid ans → tkP ps P tw o f ans 1)
def ltF (ti bid : Int) : Int := if ti = 0 then bid + 1 else bid
theorem ltF_b {ti bid : Int} (h : ti = 0 ∨ ti = 1) : (ti = 0 ∧ ltF ti bid = bid + 1) ∨ (ti = 1 ∧ ltF ti bid = bid) := by
  unfold ltF
  rcases h with h | h
  · exact Or.inl ⟨h, if_pos h⟩
  · exact Or.inr ⟨h, if_neg (by omega)⟩
theorem stA_eq {ti ps : Int} {P : qP} {tw o f bid : Int} (hti : ti = 0 ∨ ti = 1) (hb : 0 ≤ bid) (hf : 0 ≤ f) : ((0 < bid ∨ ti = 0 → tkP ps P tw o f bid 0) ∧ ∀ ans, ltF ti bid ≤ ans → ans ≤ f → lsP ps P tw o f ans 0) ↔ stA ti ps P tw o f bid := by
  have hl := ltF_b (bid := bid) hti
  constructor
  · rintro ⟨h1, h2⟩ ans a0 a1
    refine ⟨fun q => h1 ?_, fun q => h2 ans ?_ a1⟩
    · unfold fst at q; omega
    · unfold fst at q; omega
  · intro h
    refine ⟨fun q => (h 0 (Int.le_refl 0) hf).1 ?_, fun ans a0 a1 => (h ans (by omega) a1).2 ?_⟩
    · unfold fst; omega
    · unfold fst; omega
theorem hsA_eq {ti ps : Int} {P : qP} {tw o f bid : Int} (hti : ti = 0 ∨ ti = 1) (hb : 0 ≤ bid) (ho : 0 ≤ o) : (((0 < bid ∨ ti = 0) ∧ lsP ps P tw o f bid 1) ∨ ∃ ans, (ltF ti bid ≤ ans ∧ ans ≤ o) ∧ tkP ps P tw o f ans 1) ↔ hsA ti ps P tw o f bid := by
  have hl := ltF_b (bid := bid) hti
  constructor
  · rintro (⟨h1, h2⟩ | ⟨ans, h1, h2⟩)
    · exact ⟨0, ⟨Int.le_refl 0, ho⟩, fun _ => h2, fun q => by unfold fst at q; omega⟩
    · exact ⟨ans, ⟨by omega, h1.2⟩, fun q => by unfold fst at q; omega, fun _ => h2⟩
  · rintro ⟨ans, h1, h2, h3⟩
    rcases Classical.em (fst ti bid ans) with q | q
    · exact Or.inl ⟨by unfold fst at q; omega, h2 q⟩
    · exact Or.inr ⟨ans, ⟨by unfold fst at q; omega, h1.2⟩, h3 q⟩
theorem stP_no {E ti ps : Int} {P : qP} {tw o f b : Int} (h : tw ≤ 0) : stP E ti ps P tw o f b := Or.inl h
theorem gaE_b {p x : Int} (h : 0 ≤ x) : 0 ≤ gaE p x ∧ gaE p x ≤ x := by unfold gaE; split <;> omega
set_option maxHeartbeats 400000 in
set_option maxRecDepth 20000 in
theorem c_X1_canTake {S : pS} {v g zz oo : Nat} {f : Int → Int} (hv : S v = some (oO 1 [.ref g])) (hg : IsG S g zz oo f) (ok : okF f) {p : Int} (hp : -1000 ≤ p ∧ p ≤ 1000) : Ct yX1_canTake cX1_canTake 2 (Option.some FieldType.boolean) 0 0 0 [.ref v, .int (iI p)] S (kI (bC (0 < p ∨ f 3 = 0)) S) := by
  obtain ⟨o0, o1, o2, o3, o4, o5, o7, o9, o10, o12, o13, -⟩ := ok
  refine Ct.ofJ (by decide +kernel) (Nat.le_of_ble_eq_true rfl) ?_
  refine J_L (L1 := [some (.ref v), some (.int (iI p))]) rfl ?_
  refine J_iload_n (pc1 := 1) rfl (i := 1) rfl dX1_canTake_0 rfl ?_
  refine J_if_gt (pc1 := 4) (tgt := 14) (by omega) (by omega) dX1_canTake_1 rfl rfl (fun hc1 => ?_) (fun hc1 => ?_)
  · refine J_iconst (pc1 := 15) dX1_canTake_14 rfl ?_
    refine J_goto (tgt := 19) dX1_canTake_15 rfl ?_
    exact J_iret rfl rfl dX1_canTake_19 (Nat.le_refl _) (Nat.le_refl _) (kI_mk (by first | exact (bC_t (by omega)).symm | exact (bC_f (by omega)).symm))
  · refine J_aload_n (pc1 := 5) rfl (i := 0) rfl dX1_canTake_4 rfl ?_
    refine J_get (pc1 := 8) (j := 0) inUX1 (ci := 1) rfl (by decide) lf_X1_9 dX1_canTake_5 rfl hv rfl ?_
    refine J_get (pc1 := 11) (j := 3) inUX2 (ci := 2) rfl (by decide) lf_X1_69 dX1_canTake_8 rfl hg.1 rfl ?_
    refine J_if_ne (pc1 := 14) (tgt := 18) (by omega) (by omega) dX1_canTake_11 rfl rfl (fun hc2 => ?_) (fun hc2 => ?_)
    · refine J_iconst (pc1 := 19) dX1_canTake_18 rfl ?_
      exact J_iret rfl rfl dX1_canTake_19 (Nat.le_refl _) (Nat.le_refl _) (kI_mk (by first | exact (bC_t (by omega)).symm | exact (bC_f (by omega)).symm))
    · refine J_iconst (pc1 := 15) dX1_canTake_14 rfl ?_
      refine J_goto (tgt := 19) dX1_canTake_15 rfl ?_
      exact J_iret rfl rfl dX1_canTake_19 (Nat.le_refl _) (Nat.le_refl _) (kI_mk (by first | exact (bC_t (by omega)).symm | exact (bC_f (by omega)).symm))
set_option maxHeartbeats 400000 in
set_option maxRecDepth 20000 in
theorem c_X1_leastTaking {S : pS} {v g zz oo : Nat} {f : Int → Int} (hv : S v = some (oO 1 [.ref g])) (hg : IsG S g zz oo f) (ok : okF f) {p : Int} (hp : -1000 ≤ p ∧ p ≤ 1000) : Ct yX1_leastTaking cX1_leastTaking 2 (Option.some FieldType.int) 0 0 0 [.ref v, .int (iI p)] S (kI (ltF (f 3) p) S) := by
  obtain ⟨o0, o1, o2, o3, o4, o5, o7, o9, o10, o12, o13, -⟩ := ok
  refine Ct.ofJ (by decide +kernel) (Nat.le_of_ble_eq_true rfl) ?_
  refine J_L (L1 := [some (.ref v), some (.int (iI p))]) rfl ?_
  refine J_aload_n (pc1 := 1) rfl (i := 0) rfl dX1_leastTaking_0 rfl ?_
  refine J_get (pc1 := 4) (j := 0) inUX1 (ci := 1) rfl (by decide) lf_X1_9 dX1_leastTaking_1 rfl hv rfl ?_
  refine J_get (pc1 := 7) (j := 3) inUX2 (ci := 2) rfl (by decide) lf_X1_69 dX1_leastTaking_4 rfl hg.1 rfl ?_
  refine J_if_ne (pc1 := 10) (tgt := 16) (by omega) (by omega) dX1_leastTaking_7 rfl rfl (fun hc1 => ?_) (fun hc1 => ?_)
  · refine J_iload_n (pc1 := 17) rfl (i := 1) rfl dX1_leastTaking_16 rfl ?_
    exact J_iret rfl rfl dX1_leastTaking_17 (Nat.le_refl _) (Nat.le_refl _) (kI_mk (by unfold ltF; first | rw [if_pos (by omega)] | rw [if_neg (by omega)]))
  · refine J_iload_n (pc1 := 11) rfl (i := 1) rfl dX1_leastTaking_10 rfl ?_
    refine J_iconst (pc1 := 12) dX1_leastTaking_11 rfl ?_
    refine J_iadd (pc1 := 13) dX1_leastTaking_12 rfl ?_
    refine J_goto (tgt := 17) dX1_leastTaking_13 rfl ?_
    exact J_iret rfl rfl dX1_leastTaking_17 (Nat.le_refl _) (Nat.le_refl _) (kI_mk (by unfold ltF; first | rw [if_pos (by omega)] | rw [if_neg (by omega)]))
set_option maxHeartbeats 1000000 in
set_option maxRecDepth 20000 in
theorem c_X1_seesTaken {S : pS} {v g zz oo : Nat} {f : Int → Int} (hv : S v = some (oO 1 [.ref g])) (hg : IsG S g zz oo f) (ok : okF f) {k : Nat} (hk : k ≤ 100) {tw a e : Int} (ht : -10 ≤ tw ∧ tw ≤ 100) (ha : 0 ≤ a) (he : 0 ≤ e) (hs : a + e ≤ 100) {p b : Int} (hp : 0 ≤ p ∧ p ≤ a) (hb : b = 0 ∨ b = 1) (IH : ∀ (tw a e b : Int), -11 ≤ tw → tw ≤ 101 → 0 ≤ a → 0 ≤ e → a + e ≤ 100 → (b = 0 ∨ b = 1) → Ct yX1_seesWin cX1_seesWin 6 (Option.some FieldType.boolean) (4 * k + 1) 0 0 [.ref v, .int (iI (k : Int)), .int (iI tw), .int (iI a), .int (iI e), .int (iI b)] S (kI (bC (fc (f 0) (f 3) (f 2) k tw a e b)) S)) : Ct yX1_seesTaken cX1_seesTaken 7 (Option.some FieldType.boolean) (4 * k + 2) 0 0 [.ref v, .int (iI ((k : Int) + 1)), .int (iI tw), .int (iI a), .int (iI e), .int (iI p), .int (iI b)] S (kI (bC (tkP (f 2) (fc (f 0) (f 3) (f 2) k) tw a e p b)) S) := by
  obtain ⟨o0, o1, o2, o3, o4, o5, o7, o9, o10, o12, o13, -⟩ := ok
  have hgb := gaE_b (p := f 2) hp.1
  refine Ct.ofJ (by decide +kernel) (Nat.le_of_ble_eq_true rfl) ?_
  refine J_L (L1 := [some (.ref v), some (.int (iI ((k : Int) + 1))), some (.int (iI tw)), some (.int (iI a)), some (.int (iI e)), some (.int (iI p)), some (.int (iI b))]) rfl ?_
  refine J_aload_n (pc1 := 1) rfl (i := 0) rfl dX1_seesTaken_0 rfl ?_
  refine J_iload_n (pc1 := 2) rfl (i := 1) rfl dX1_seesTaken_1 rfl ?_
  refine J_iconst (pc1 := 3) dX1_seesTaken_2 rfl ?_
  refine J_isub (pc1 := 4) dX1_seesTaken_3 rfl ?_
  refine J_nm (fun z18 hz18 => ?_)
  obtain rfl : z18 = (k : Int) := by omega
  refine J_iload_n (pc1 := 5) rfl (i := 2) rfl dX1_seesTaken_4 rfl ?_
  refine J_iconst (pc1 := 6) dX1_seesTaken_5 rfl ?_
  refine J_isub (pc1 := 7) dX1_seesTaken_6 rfl ?_
  refine J_iload_n (pc1 := 8) rfl (i := 3) rfl dX1_seesTaken_7 rfl ?_
  refine J_iload (pc1 := 10) rfl dX1_seesTaken_8 rfl ?_
  refine J_isub (pc1 := 11) dX1_seesTaken_10 rfl ?_
  refine J_iload (pc1 := 13) rfl dX1_seesTaken_11 rfl ?_
  refine J_aload_n (pc1 := 14) rfl (i := 0) rfl dX1_seesTaken_13 rfl ?_
  refine J_get (pc1 := 17) (j := 0) inUX1 (ci := 1) rfl (by decide) lf_X1_9 dX1_seesTaken_14 rfl hv rfl ?_
  refine J_iload (pc1 := 19) rfl dX1_seesTaken_17 rfl ?_
  refine J_callVI (pc1 := 22) (As := [.int (iI p)]) gv_X1_72 yv_X2_gainOf rfl (c_X2_gainOf (p := f 2) hg.1 (by omega)) dX1_seesTaken_19 rfl hg.1 rfl rfl (by omega) (by decide) (Nat.zero_le _) (Nat.zero_le _) (Nat.le_of_ble_eq_true rfl) ?_
  refine J_iadd (pc1 := 23) dX1_seesTaken_22 rfl ?_
  refine J_iload (pc1 := 25) rfl dX1_seesTaken_23 rfl ?_
  refine J_callVI (pc1 := 28) (As := [.int (iI (k : Int)), .int (iI (tw - 1)), .int (iI (a - p)), .int (iI (e + (gaE (f 2) p))), .int (iI b)]) gv_X1_34 yv_X1_seesWin rfl (IH (tw - 1) (a - p) (e + (gaE (f 2) p)) b (by omega) (by omega) (by omega) (by omega) (by omega) hb) dX1_seesTaken_25 rfl hv rfl rfl (by omega) (by decide) (Nat.zero_le _) (Nat.zero_le _) (Nat.le_of_ble_eq_true rfl) ?_
  exact J_iret rfl (nar_bC _) dX1_seesTaken_28 (Nat.le_refl _) (Nat.le_refl _) (kI_mk rfl)
set_option maxHeartbeats 1000000 in
set_option maxRecDepth 20000 in
theorem c_X1_seesLost {S : pS} {v g zz oo : Nat} {f : Int → Int} (hv : S v = some (oO 1 [.ref g])) (hg : IsG S g zz oo f) (ok : okF f) {k : Nat} (hk : k ≤ 100) {tw a e : Int} (ht : -10 ≤ tw ∧ tw ≤ 100) (ha : 0 ≤ a) (he : 0 ≤ e) (hs : a + e ≤ 100) {p b : Int} (hp : 0 ≤ p ∧ p ≤ e) (hb : b = 0 ∨ b = 1) (IH : ∀ (tw a e b : Int), -11 ≤ tw → tw ≤ 101 → 0 ≤ a → 0 ≤ e → a + e ≤ 100 → (b = 0 ∨ b = 1) → Ct yX1_seesWin cX1_seesWin 6 (Option.some FieldType.boolean) (4 * k + 1) 0 0 [.ref v, .int (iI (k : Int)), .int (iI tw), .int (iI a), .int (iI e), .int (iI b)] S (kI (bC (fc (f 0) (f 3) (f 2) k tw a e b)) S)) : Ct yX1_seesLost cX1_seesLost 7 (Option.some FieldType.boolean) (4 * k + 2) 0 0 [.ref v, .int (iI ((k : Int) + 1)), .int (iI tw), .int (iI a), .int (iI e), .int (iI p), .int (iI b)] S (kI (bC (lsP (f 2) (fc (f 0) (f 3) (f 2) k) tw a e p b)) S) := by
  obtain ⟨o0, o1, o2, o3, o4, o5, o7, o9, o10, o12, o13, -⟩ := ok
  have hgb := gaE_b (p := f 2) hp.1
  refine Ct.ofJ (by decide +kernel) (Nat.le_of_ble_eq_true rfl) ?_
  refine J_L (L1 := [some (.ref v), some (.int (iI ((k : Int) + 1))), some (.int (iI tw)), some (.int (iI a)), some (.int (iI e)), some (.int (iI p)), some (.int (iI b))]) rfl ?_
  refine J_aload_n (pc1 := 1) rfl (i := 0) rfl dX1_seesLost_0 rfl ?_
  refine J_iload_n (pc1 := 2) rfl (i := 1) rfl dX1_seesLost_1 rfl ?_
  refine J_iconst (pc1 := 3) dX1_seesLost_2 rfl ?_
  refine J_isub (pc1 := 4) dX1_seesLost_3 rfl ?_
  refine J_nm (fun z19 hz19 => ?_)
  obtain rfl : z19 = (k : Int) := by omega
  refine J_iload_n (pc1 := 5) rfl (i := 2) rfl dX1_seesLost_4 rfl ?_
  refine J_iconst (pc1 := 6) dX1_seesLost_5 rfl ?_
  refine J_iadd (pc1 := 7) dX1_seesLost_6 rfl ?_
  refine J_iload_n (pc1 := 8) rfl (i := 3) rfl dX1_seesLost_7 rfl ?_
  refine J_aload_n (pc1 := 9) rfl (i := 0) rfl dX1_seesLost_8 rfl ?_
  refine J_get (pc1 := 12) (j := 0) inUX1 (ci := 1) rfl (by decide) lf_X1_9 dX1_seesLost_9 rfl hv rfl ?_
  refine J_iload (pc1 := 14) rfl dX1_seesLost_12 rfl ?_
  refine J_callVI (pc1 := 17) (As := [.int (iI p)]) gv_X1_72 yv_X2_gainOf rfl (c_X2_gainOf (p := f 2) hg.1 (by omega)) dX1_seesLost_14 rfl hg.1 rfl rfl (by omega) (by decide) (Nat.zero_le _) (Nat.zero_le _) (Nat.le_of_ble_eq_true rfl) ?_
  refine J_iadd (pc1 := 18) dX1_seesLost_17 rfl ?_
  refine J_iload (pc1 := 20) rfl dX1_seesLost_18 rfl ?_
  refine J_iload (pc1 := 22) rfl dX1_seesLost_20 rfl ?_
  refine J_isub (pc1 := 23) dX1_seesLost_22 rfl ?_
  refine J_iload (pc1 := 25) rfl dX1_seesLost_23 rfl ?_
  refine J_callVI (pc1 := 28) (As := [.int (iI (k : Int)), .int (iI (tw + 1)), .int (iI (a + (gaE (f 2) p))), .int (iI (e - p)), .int (iI b)]) gv_X1_34 yv_X1_seesWin rfl (IH (tw + 1) (a + (gaE (f 2) p)) (e - p) b (by omega) (by omega) (by omega) (by omega) (by omega) hb) dX1_seesLost_25 rfl hv rfl rfl (by omega) (by decide) (Nat.zero_le _) (Nat.zero_le _) (Nat.le_of_ble_eq_true rfl) ?_
  exact J_iret rfl (nar_bC _) dX1_seesLost_28 (Nat.le_refl _) (Nat.le_refl _) (kI_mk rfl)
set_option maxHeartbeats 1000000 in
set_option maxRecDepth 20000 in
theorem c_X1_standsAllAnswers {S : pS} {v g zz oo : Nat} {f : Int → Int} (hv : S v = some (oO 1 [.ref g])) (hg : IsG S g zz oo f) (ok : okF f) {k : Nat} (hk : k ≤ 100) {tw a e : Int} (ht : -10 ≤ tw ∧ tw ≤ 100) (ha : 0 ≤ a) (he : 0 ≤ e) (hs : a + e ≤ 100) {p : Int} (hp : 0 ≤ p ∧ p ≤ a) (IH : ∀ (tw a e b : Int), -11 ≤ tw → tw ≤ 101 → 0 ≤ a → 0 ≤ e → a + e ≤ 100 → (b = 0 ∨ b = 1) → Ct yX1_seesWin cX1_seesWin 6 (Option.some FieldType.boolean) (4 * k + 1) 0 0 [.ref v, .int (iI (k : Int)), .int (iI tw), .int (iI a), .int (iI e), .int (iI b)] S (kI (bC (fc (f 0) (f 3) (f 2) k tw a e b)) S)) : Ct yX1_standsAllAnswers cX1_standsAllAnswers 7 (Option.some FieldType.boolean) (4 * k + 3) 0 0 [.ref v, .int (iI ((k : Int) + 1)), .int (iI tw), .int (iI a), .int (iI e), .int (iI p)] S (kI (bC (stA (f 3) (f 2) (fc (f 0) (f 3) (f 2) k) tw a e p)) S) := by
  have ok0 := ok
  obtain ⟨o0, o1, o2, o3, o4, o5, o7, o9, o10, o12, o13, -⟩ := ok
  have hlt := ltF_b (bid := p) o3
  refine Ct.ofJ (by decide +kernel) (Nat.le_of_ble_eq_true rfl) ?_
  refine J_L (L1 := [some (.ref v), some (.int (iI ((k : Int) + 1))), some (.int (iI tw)), some (.int (iI a)), some (.int (iI e)), some (.int (iI p)), none]) rfl ?_
  have LP : (0 < p ∨ f 3 = 0 → tkP (f 2) (fc (f 0) (f 3) (f 2) k) tw a e p 0) → ∀ (n9 : Nat) (x : Int), ltF (f 3) p ≤ x → x ≤ 200 → (∀ q, ltF (f 3) p ≤ q → q < x → lsP (f 2) (fc (f 0) (f 3) (f 2) k) tw a e q 0) → 200 - x < n9 → Jd yX1_standsAllAnswers cX1_standsAllAnswers 7 (Option.some FieldType.boolean) (4 * k + 3) 0 0 (kI (bC (stA (f 3) (f 2) (fc (f 0) (f 3) (f 2) k) tw a e p)) S) 0 0 S 34 [some (.ref v), some (.int (iI ((k : Int) + 1))), some (.int (iI tw)), some (.int (iI a)), some (.int (iI e)), some (.int (iI p)), some (.int (iI x))] [] := by
    intro h0 n9
    induction n9 with
    | zero => intro x x1 x2 x3 x4; omega
    | succ n9 ih =>
      intro x x1 x2 x3 x4
      refine J_iload (pc1 := 36) rfl dX1_standsAllAnswers_34 rfl ?_
      refine J_iload (pc1 := 38) rfl dX1_standsAllAnswers_36 rfl ?_
      refine J_icmp_gt (pc1 := 41) (tgt := 64) (by omega) (by omega) (by omega) (by omega) dX1_standsAllAnswers_38 rfl rfl (fun hc1 => ?_) (fun hc1 => ?_)
      · refine J_iconst (pc1 := 65) dX1_standsAllAnswers_64 rfl ?_
        exact J_iret rfl rfl dX1_standsAllAnswers_65 (Nat.le_refl _) (Nat.le_refl _) (kI_mk (bC_t ((stA_eq (tw := tw) (o := a) (f := e) o3 hp.1 he).mp ⟨h0, fun q q1 q2 => x3 q q1 (by omega)⟩)).symm)
      · refine J_aload_n (pc1 := 42) rfl (i := 0) rfl dX1_standsAllAnswers_41 rfl ?_
        refine J_iload_n (pc1 := 43) rfl (i := 1) rfl dX1_standsAllAnswers_42 rfl ?_
        refine J_iload_n (pc1 := 44) rfl (i := 2) rfl dX1_standsAllAnswers_43 rfl ?_
        refine J_iload_n (pc1 := 45) rfl (i := 3) rfl dX1_standsAllAnswers_44 rfl ?_
        refine J_iload (pc1 := 47) rfl dX1_standsAllAnswers_45 rfl ?_
        refine J_iload (pc1 := 49) rfl dX1_standsAllAnswers_47 rfl ?_
        refine J_iconst (pc1 := 50) dX1_standsAllAnswers_49 rfl ?_
        refine J_callVI (pc1 := 53) (As := [.int (iI ((k : Int) + 1)), .int (iI tw), .int (iI a), .int (iI e), .int (iI x), .int (iI 0)]) gv_X1_63 yv_X1_seesLost rfl (c_X1_seesLost hv hg ok0 hk (tw := tw) (a := a) (e := e) (p := x) (b := 0) ht ha he hs (by omega) (by omega) IH) dX1_standsAllAnswers_50 rfl hv rfl rfl (by omega) (by decide) (Nat.zero_le _) (Nat.zero_le _) (Nat.le_of_ble_eq_true rfl) ?_
        refine J_if_ne (pc1 := 56) (tgt := 58) (bC_lo _) (bC_hi _) dX1_standsAllAnswers_53 rfl rfl (fun hc2 => ?_) (fun hc2 => ?_)
        · refine J_iinc (pc1 := 61) (L1 := [some (.ref v), some (.int (iI ((k : Int) + 1))), some (.int (iI tw)), some (.int (iI a)), some (.int (iI e)), some (.int (iI p)), some (.int (iI (x + 1)))]) dX1_standsAllAnswers_58 rfl rfl (by decide) rfl rfl ?_
          refine J_goto (tgt := 34) dX1_standsAllAnswers_61 rfl ?_
          refine ih (x + 1) (by omega) (by omega) (fun q q1 q2 => ?_) (by omega)
          rcases Classical.em (q = x) with z | z
          · subst z
            exact bC_1 (by assumption)
          · exact x3 q q1 (by omega)
        · refine J_iconst (pc1 := 57) dX1_standsAllAnswers_56 rfl ?_
          exact J_iret rfl rfl dX1_standsAllAnswers_57 (Nat.le_refl _) (Nat.le_refl _) (kI_mk (bC_f (fun z => bC_0 (by assumption) (((stA_eq (tw := tw) (o := a) (f := e) o3 hp.1 he).mpr z).2 x x1 (by omega)))).symm)
  refine J_aload_n (pc1 := 1) rfl (i := 0) rfl dX1_standsAllAnswers_0 rfl ?_
  refine J_iload (pc1 := 3) rfl dX1_standsAllAnswers_1 rfl ?_
  refine J_callVI (pc1 := 6) (As := [.int (iI p)]) gv_X1_52 yv_X1_canTake rfl (c_X1_canTake hv hg ok0 (p := p) (by omega)) dX1_standsAllAnswers_3 rfl hv rfl rfl (by omega) (by decide) (Nat.zero_le _) (Nat.zero_le _) (Nat.le_of_ble_eq_true rfl) ?_
  refine J_if_eq (pc1 := 9) (tgt := 26) (bC_lo _) (bC_hi _) dX1_standsAllAnswers_6 rfl rfl (fun hc3 => ?_) (fun hc3 => ?_)
  · refine J_aload_n (pc1 := 27) rfl (i := 0) rfl dX1_standsAllAnswers_26 rfl ?_
    refine J_iload (pc1 := 29) rfl dX1_standsAllAnswers_27 rfl ?_
    refine J_callVI (pc1 := 32) (As := [.int (iI p)]) gv_X1_60 yv_X1_leastTaking rfl (c_X1_leastTaking hv hg ok0 (p := p) (by omega)) dX1_standsAllAnswers_29 rfl hv rfl rfl (by omega) (by decide) (Nat.zero_le _) (Nat.zero_le _) (Nat.le_of_ble_eq_true rfl) ?_
    refine J_istore (pc1 := 34) (L1 := [some (.ref v), some (.int (iI ((k : Int) + 1))), some (.int (iI tw)), some (.int (iI a)), some (.int (iI e)), some (.int (iI p)), some (.int (iI (ltF (f 3) p)))]) dX1_standsAllAnswers_32 rfl (by decide) rfl rfl ?_
    exact LP (by first | exact fun z => absurd z (bC_0 (by assumption)) | exact fun _ => bC_1 (by assumption)) 300 _ (Int.le_refl _) (by omega) (fun q q1 q2 => by omega) (by omega)
  · refine J_aload_n (pc1 := 10) rfl (i := 0) rfl dX1_standsAllAnswers_9 rfl ?_
    refine J_iload_n (pc1 := 11) rfl (i := 1) rfl dX1_standsAllAnswers_10 rfl ?_
    refine J_iload_n (pc1 := 12) rfl (i := 2) rfl dX1_standsAllAnswers_11 rfl ?_
    refine J_iload_n (pc1 := 13) rfl (i := 3) rfl dX1_standsAllAnswers_12 rfl ?_
    refine J_iload (pc1 := 15) rfl dX1_standsAllAnswers_13 rfl ?_
    refine J_iload (pc1 := 17) rfl dX1_standsAllAnswers_15 rfl ?_
    refine J_iconst (pc1 := 18) dX1_standsAllAnswers_17 rfl ?_
    refine J_callVI (pc1 := 21) (As := [.int (iI ((k : Int) + 1)), .int (iI tw), .int (iI a), .int (iI e), .int (iI p), .int (iI 0)]) gv_X1_56 yv_X1_seesTaken rfl (c_X1_seesTaken hv hg ok0 hk (tw := tw) (a := a) (e := e) (p := p) (b := 0) ht ha he hs (by omega) (by omega) IH) dX1_standsAllAnswers_18 rfl hv rfl rfl (by omega) (by decide) (Nat.zero_le _) (Nat.zero_le _) (Nat.le_of_ble_eq_true rfl) ?_
    refine J_if_ne (pc1 := 24) (tgt := 26) (bC_lo _) (bC_hi _) dX1_standsAllAnswers_21 rfl rfl (fun hc4 => ?_) (fun hc4 => ?_)
    · refine J_aload_n (pc1 := 27) rfl (i := 0) rfl dX1_standsAllAnswers_26 rfl ?_
      refine J_iload (pc1 := 29) rfl dX1_standsAllAnswers_27 rfl ?_
      refine J_callVI (pc1 := 32) (As := [.int (iI p)]) gv_X1_60 yv_X1_leastTaking rfl (c_X1_leastTaking hv hg ok0 (p := p) (by omega)) dX1_standsAllAnswers_29 rfl hv rfl rfl (by omega) (by decide) (Nat.zero_le _) (Nat.zero_le _) (Nat.le_of_ble_eq_true rfl) ?_
      refine J_istore (pc1 := 34) (L1 := [some (.ref v), some (.int (iI ((k : Int) + 1))), some (.int (iI tw)), some (.int (iI a)), some (.int (iI e)), some (.int (iI p)), some (.int (iI (ltF (f 3) p)))]) dX1_standsAllAnswers_32 rfl (by decide) rfl rfl ?_
      exact LP (by first | exact fun z => absurd z (bC_0 (by assumption)) | exact fun _ => bC_1 (by assumption)) 300 _ (Int.le_refl _) (by omega) (fun q q1 q2 => by omega) (by omega)
    · refine J_iconst (pc1 := 25) dX1_standsAllAnswers_24 rfl ?_
      exact J_iret rfl rfl dX1_standsAllAnswers_25 (Nat.le_refl _) (Nat.le_refl _) (kI_mk (bC_f (fun z => bC_0 (by assumption) (((stA_eq (tw := tw) (o := a) (f := e) o3 hp.1 he).mpr z).1 (bC_1 (by assumption))))).symm)
set_option maxHeartbeats 1000000 in
set_option maxRecDepth 20000 in
theorem c_X1_hasAnswer {S : pS} {v g zz oo : Nat} {f : Int → Int} (hv : S v = some (oO 1 [.ref g])) (hg : IsG S g zz oo f) (ok : okF f) {k : Nat} (hk : k ≤ 100) {tw a e : Int} (ht : -10 ≤ tw ∧ tw ≤ 100) (ha : 0 ≤ a) (he : 0 ≤ e) (hs : a + e ≤ 100) {p : Int} (hp : 0 ≤ p ∧ p ≤ e) (IH : ∀ (tw a e b : Int), -11 ≤ tw → tw ≤ 101 → 0 ≤ a → 0 ≤ e → a + e ≤ 100 → (b = 0 ∨ b = 1) → Ct yX1_seesWin cX1_seesWin 6 (Option.some FieldType.boolean) (4 * k + 1) 0 0 [.ref v, .int (iI (k : Int)), .int (iI tw), .int (iI a), .int (iI e), .int (iI b)] S (kI (bC (fc (f 0) (f 3) (f 2) k tw a e b)) S)) : Ct yX1_hasAnswer cX1_hasAnswer 7 (Option.some FieldType.boolean) (4 * k + 3) 0 0 [.ref v, .int (iI ((k : Int) + 1)), .int (iI tw), .int (iI a), .int (iI e), .int (iI p)] S (kI (bC (hsA (f 3) (f 2) (fc (f 0) (f 3) (f 2) k) tw a e p)) S) := by
  have ok0 := ok
  obtain ⟨o0, o1, o2, o3, o4, o5, o7, o9, o10, o12, o13, -⟩ := ok
  have hlt := ltF_b (bid := p) o3
  refine Ct.ofJ (by decide +kernel) (Nat.le_of_ble_eq_true rfl) ?_
  refine J_L (L1 := [some (.ref v), some (.int (iI ((k : Int) + 1))), some (.int (iI tw)), some (.int (iI a)), some (.int (iI e)), some (.int (iI p)), none]) rfl ?_
  have LP : ¬ ((0 < p ∨ f 3 = 0) ∧ lsP (f 2) (fc (f 0) (f 3) (f 2) k) tw a e p 1) → ∀ (n9 : Nat) (x : Int), ltF (f 3) p ≤ x → x ≤ 200 → (∀ q, ltF (f 3) p ≤ q → q < x → ¬ tkP (f 2) (fc (f 0) (f 3) (f 2) k) tw a e q 1) → 200 - x < n9 → Jd yX1_hasAnswer cX1_hasAnswer 7 (Option.some FieldType.boolean) (4 * k + 3) 0 0 (kI (bC (hsA (f 3) (f 2) (fc (f 0) (f 3) (f 2) k) tw a e p)) S) 0 0 S 34 [some (.ref v), some (.int (iI ((k : Int) + 1))), some (.int (iI tw)), some (.int (iI a)), some (.int (iI e)), some (.int (iI p)), some (.int (iI x))] [] := by
    intro h0 n9
    induction n9 with
    | zero => intro x x1 x2 x3 x4; omega
    | succ n9 ih =>
      intro x x1 x2 x3 x4
      refine J_iload (pc1 := 36) rfl dX1_hasAnswer_34 rfl ?_
      refine J_iload_n (pc1 := 37) rfl (i := 3) rfl dX1_hasAnswer_36 rfl ?_
      refine J_icmp_gt (pc1 := 40) (tgt := 63) (by omega) (by omega) (by omega) (by omega) dX1_hasAnswer_37 rfl rfl (fun hc1 => ?_) (fun hc1 => ?_)
      · refine J_iconst (pc1 := 64) dX1_hasAnswer_63 rfl ?_
        exact J_iret rfl rfl dX1_hasAnswer_64 (Nat.le_refl _) (Nat.le_refl _) (kI_mk (bC_f (fun z => ((hsA_eq (tw := tw) (o := a) (f := e) o3 hp.1 ha).mpr z).elim h0 (fun ⟨q, q1, q2⟩ => x3 q q1.1 (by omega) q2))).symm)
      · refine J_aload_n (pc1 := 41) rfl (i := 0) rfl dX1_hasAnswer_40 rfl ?_
        refine J_iload_n (pc1 := 42) rfl (i := 1) rfl dX1_hasAnswer_41 rfl ?_
        refine J_iload_n (pc1 := 43) rfl (i := 2) rfl dX1_hasAnswer_42 rfl ?_
        refine J_iload_n (pc1 := 44) rfl (i := 3) rfl dX1_hasAnswer_43 rfl ?_
        refine J_iload (pc1 := 46) rfl dX1_hasAnswer_44 rfl ?_
        refine J_iload (pc1 := 48) rfl dX1_hasAnswer_46 rfl ?_
        refine J_iconst (pc1 := 49) dX1_hasAnswer_48 rfl ?_
        refine J_callVI (pc1 := 52) (As := [.int (iI ((k : Int) + 1)), .int (iI tw), .int (iI a), .int (iI e), .int (iI x), .int (iI 1)]) gv_X1_56 yv_X1_seesTaken rfl (c_X1_seesTaken hv hg ok0 hk (tw := tw) (a := a) (e := e) (p := x) (b := 1) ht ha he hs (by omega) (by omega) IH) dX1_hasAnswer_49 rfl hv rfl rfl (by omega) (by decide) (Nat.zero_le _) (Nat.zero_le _) (Nat.le_of_ble_eq_true rfl) ?_
        refine J_if_eq (pc1 := 55) (tgt := 57) (bC_lo _) (bC_hi _) dX1_hasAnswer_52 rfl rfl (fun hc2 => ?_) (fun hc2 => ?_)
        · refine J_iinc (pc1 := 60) (L1 := [some (.ref v), some (.int (iI ((k : Int) + 1))), some (.int (iI tw)), some (.int (iI a)), some (.int (iI e)), some (.int (iI p)), some (.int (iI (x + 1)))]) dX1_hasAnswer_57 rfl rfl (by decide) rfl rfl ?_
          refine J_goto (tgt := 34) dX1_hasAnswer_60 rfl ?_
          refine ih (x + 1) (by omega) (by omega) (fun q q1 q2 => ?_) (by omega)
          rcases Classical.em (q = x) with z | z
          · subst z
            exact bC_0 (by assumption)
          · exact x3 q q1 (by omega)
        · refine J_iconst (pc1 := 56) dX1_hasAnswer_55 rfl ?_
          exact J_iret rfl rfl dX1_hasAnswer_56 (Nat.le_refl _) (Nat.le_refl _) (kI_mk (bC_t ((hsA_eq (tw := tw) (o := a) (f := e) o3 hp.1 ha).mp (Or.inr ⟨x, ⟨x1, by omega⟩, bC_1 (by assumption)⟩))).symm)
  refine J_aload_n (pc1 := 1) rfl (i := 0) rfl dX1_hasAnswer_0 rfl ?_
  refine J_iload (pc1 := 3) rfl dX1_hasAnswer_1 rfl ?_
  refine J_callVI (pc1 := 6) (As := [.int (iI p)]) gv_X1_52 yv_X1_canTake rfl (c_X1_canTake hv hg ok0 (p := p) (by omega)) dX1_hasAnswer_3 rfl hv rfl rfl (by omega) (by decide) (Nat.zero_le _) (Nat.zero_le _) (Nat.le_of_ble_eq_true rfl) ?_
  refine J_if_eq (pc1 := 9) (tgt := 26) (bC_lo _) (bC_hi _) dX1_hasAnswer_6 rfl rfl (fun hc3 => ?_) (fun hc3 => ?_)
  · refine J_aload_n (pc1 := 27) rfl (i := 0) rfl dX1_hasAnswer_26 rfl ?_
    refine J_iload (pc1 := 29) rfl dX1_hasAnswer_27 rfl ?_
    refine J_callVI (pc1 := 32) (As := [.int (iI p)]) gv_X1_60 yv_X1_leastTaking rfl (c_X1_leastTaking hv hg ok0 (p := p) (by omega)) dX1_hasAnswer_29 rfl hv rfl rfl (by omega) (by decide) (Nat.zero_le _) (Nat.zero_le _) (Nat.le_of_ble_eq_true rfl) ?_
    refine J_istore (pc1 := 34) (L1 := [some (.ref v), some (.int (iI ((k : Int) + 1))), some (.int (iI tw)), some (.int (iI a)), some (.int (iI e)), some (.int (iI p)), some (.int (iI (ltF (f 3) p)))]) dX1_hasAnswer_32 rfl (by decide) rfl rfl ?_
    exact LP (by first | exact fun z => bC_0 (by assumption) z.1 | exact fun z => bC_0 (by assumption) z.2) 300 _ (Int.le_refl _) (by omega) (fun q q1 q2 => by omega) (by omega)
  · refine J_aload_n (pc1 := 10) rfl (i := 0) rfl dX1_hasAnswer_9 rfl ?_
    refine J_iload_n (pc1 := 11) rfl (i := 1) rfl dX1_hasAnswer_10 rfl ?_
    refine J_iload_n (pc1 := 12) rfl (i := 2) rfl dX1_hasAnswer_11 rfl ?_
    refine J_iload_n (pc1 := 13) rfl (i := 3) rfl dX1_hasAnswer_12 rfl ?_
    refine J_iload (pc1 := 15) rfl dX1_hasAnswer_13 rfl ?_
    refine J_iload (pc1 := 17) rfl dX1_hasAnswer_15 rfl ?_
    refine J_iconst (pc1 := 18) dX1_hasAnswer_17 rfl ?_
    refine J_callVI (pc1 := 21) (As := [.int (iI ((k : Int) + 1)), .int (iI tw), .int (iI a), .int (iI e), .int (iI p), .int (iI 1)]) gv_X1_63 yv_X1_seesLost rfl (c_X1_seesLost hv hg ok0 hk (tw := tw) (a := a) (e := e) (p := p) (b := 1) ht ha he hs (by omega) (by omega) IH) dX1_hasAnswer_18 rfl hv rfl rfl (by omega) (by decide) (Nat.zero_le _) (Nat.zero_le _) (Nat.le_of_ble_eq_true rfl) ?_
    refine J_if_eq (pc1 := 24) (tgt := 26) (bC_lo _) (bC_hi _) dX1_hasAnswer_21 rfl rfl (fun hc4 => ?_) (fun hc4 => ?_)
    · refine J_aload_n (pc1 := 27) rfl (i := 0) rfl dX1_hasAnswer_26 rfl ?_
      refine J_iload (pc1 := 29) rfl dX1_hasAnswer_27 rfl ?_
      refine J_callVI (pc1 := 32) (As := [.int (iI p)]) gv_X1_60 yv_X1_leastTaking rfl (c_X1_leastTaking hv hg ok0 (p := p) (by omega)) dX1_hasAnswer_29 rfl hv rfl rfl (by omega) (by decide) (Nat.zero_le _) (Nat.zero_le _) (Nat.le_of_ble_eq_true rfl) ?_
      refine J_istore (pc1 := 34) (L1 := [some (.ref v), some (.int (iI ((k : Int) + 1))), some (.int (iI tw)), some (.int (iI a)), some (.int (iI e)), some (.int (iI p)), some (.int (iI (ltF (f 3) p)))]) dX1_hasAnswer_32 rfl (by decide) rfl rfl ?_
      exact LP (by first | exact fun z => bC_0 (by assumption) z.1 | exact fun z => bC_0 (by assumption) z.2) 300 _ (Int.le_refl _) (by omega) (fun q q1 q2 => by omega) (by omega)
    · refine J_iconst (pc1 := 25) dX1_hasAnswer_24 rfl ?_
      exact J_iret rfl rfl dX1_hasAnswer_25 (Nat.le_refl _) (Nat.le_refl _) (kI_mk (bC_t ((hsA_eq (tw := tw) (o := a) (f := e) o3 hp.1 ha).mp (Or.inl ⟨bC_1 (by assumption), bC_1 (by assumption)⟩))).symm)
set_option maxHeartbeats 1000000 in
set_option maxRecDepth 20000 in
theorem c_X1_seesBid {S : pS} {v g zz oo : Nat} {f : Int → Int} (hv : S v = some (oO 1 [.ref g])) (hg : IsG S g zz oo f) (ok : okF f) {k : Nat} (hk : k ≤ 100) {tw a e : Int} (ht : -10 ≤ tw ∧ tw ≤ 100) (ha : 0 ≤ a) (he : 0 ≤ e) (hs : a + e ≤ 100) (IH : ∀ (tw a e b : Int), -11 ≤ tw → tw ≤ 101 → 0 ≤ a → 0 ≤ e → a + e ≤ 100 → (b = 0 ∨ b = 1) → Ct yX1_seesWin cX1_seesWin 6 (Option.some FieldType.boolean) (4 * k + 1) 0 0 [.ref v, .int (iI (k : Int)), .int (iI tw), .int (iI a), .int (iI e), .int (iI b)] S (kI (bC (fc (f 0) (f 3) (f 2) k tw a e b)) S)) : Ct yX1_seesBid cX1_seesBid 6 (Option.some FieldType.boolean) (4 * k + 4) 0 0 [.ref v, .int (iI ((k : Int) + 1)), .int (iI tw), .int (iI a), .int (iI e)] S (kI (bC (bidP (f 3) (f 2) (fc (f 0) (f 3) (f 2) k) tw a e)) S) := by
  have ok0 := ok
  obtain ⟨o0, o1, o2, o3, o4, o5, o7, o9, o10, o12, o13, -⟩ := ok
  refine Ct.ofJ (by decide +kernel) (Nat.le_of_ble_eq_true rfl) ?_
  refine J_L (L1 := [some (.ref v), some (.int (iI ((k : Int) + 1))), some (.int (iI tw)), some (.int (iI a)), some (.int (iI e)), none]) rfl ?_
  have LP : ∀ (n9 : Nat) (x : Int), 0 ≤ x → x ≤ 200 → (∀ q, 0 ≤ q → q < x → ¬ stA (f 3) (f 2) (fc (f 0) (f 3) (f 2) k) tw a e q) → 200 - x < n9 → Jd yX1_seesBid cX1_seesBid 6 (Option.some FieldType.boolean) (4 * k + 4) 0 0 (kI (bC (bidP (f 3) (f 2) (fc (f 0) (f 3) (f 2) k) tw a e)) S) 0 0 S 3 [some (.ref v), some (.int (iI ((k : Int) + 1))), some (.int (iI tw)), some (.int (iI a)), some (.int (iI e)), some (.int (iI x))] [] := by
    intro n9
    induction n9 with
    | zero => intro x x1 x2 x3 x4; omega
    | succ n9 ih =>
      intro x x1 x2 x3 x4
      refine J_iload (pc1 := 5) rfl dX1_seesBid_3 rfl ?_
      refine J_iload_n (pc1 := 6) rfl (i := 3) rfl dX1_seesBid_5 rfl ?_
      refine J_icmp_gt (pc1 := 9) (tgt := 31) (by omega) (by omega) (by omega) (by omega) dX1_seesBid_6 rfl rfl (fun hc1 => ?_) (fun hc1 => ?_)
      · refine J_iconst (pc1 := 32) dX1_seesBid_31 rfl ?_
        exact J_iret rfl rfl dX1_seesBid_32 (Nat.le_refl _) (Nat.le_refl _) (kI_mk (bC_f (fun ⟨q, q1, q2⟩ => x3 q q1.1 (by omega) q2)).symm)
      · refine J_aload_n (pc1 := 10) rfl (i := 0) rfl dX1_seesBid_9 rfl ?_
        refine J_iload_n (pc1 := 11) rfl (i := 1) rfl dX1_seesBid_10 rfl ?_
        refine J_iload_n (pc1 := 12) rfl (i := 2) rfl dX1_seesBid_11 rfl ?_
        refine J_iload_n (pc1 := 13) rfl (i := 3) rfl dX1_seesBid_12 rfl ?_
        refine J_iload (pc1 := 15) rfl dX1_seesBid_13 rfl ?_
        refine J_iload (pc1 := 17) rfl dX1_seesBid_15 rfl ?_
        refine J_callVI (pc1 := 20) (As := [.int (iI ((k : Int) + 1)), .int (iI tw), .int (iI a), .int (iI e), .int (iI x)]) gv_X1_48 yv_X1_standsAllAnswers rfl (c_X1_standsAllAnswers hv hg ok0 hk (tw := tw) (a := a) (e := e) (p := x) ht ha he hs (by omega) IH) dX1_seesBid_17 rfl hv rfl rfl (by omega) (by decide) (Nat.zero_le _) (Nat.zero_le _) (Nat.le_of_ble_eq_true rfl) ?_
        refine J_if_eq (pc1 := 23) (tgt := 25) (bC_lo _) (bC_hi _) dX1_seesBid_20 rfl rfl (fun hc2 => ?_) (fun hc2 => ?_)
        · refine J_iinc (pc1 := 28) (L1 := [some (.ref v), some (.int (iI ((k : Int) + 1))), some (.int (iI tw)), some (.int (iI a)), some (.int (iI e)), some (.int (iI (x + 1)))]) dX1_seesBid_25 rfl rfl (by decide) rfl rfl ?_
          refine J_goto (tgt := 3) dX1_seesBid_28 rfl ?_
          refine ih (x + 1) (by omega) (by omega) (fun q q1 q2 => ?_) (by omega)
          rcases Classical.em (q = x) with z | z
          · subst z
            exact bC_0 (by assumption)
          · exact x3 q q1 (by omega)
        · refine J_iconst (pc1 := 24) dX1_seesBid_23 rfl ?_
          exact J_iret rfl rfl dX1_seesBid_24 (Nat.le_refl _) (Nat.le_refl _) (kI_mk (bC_t ⟨x, ⟨x1, by omega⟩, bC_1 (by assumption)⟩).symm)
  refine J_iconst (pc1 := 1) dX1_seesBid_0 rfl ?_
  refine J_istore (pc1 := 3) (L1 := [some (.ref v), some (.int (iI ((k : Int) + 1))), some (.int (iI tw)), some (.int (iI a)), some (.int (iI e)), some (.int (iI 0))]) dX1_seesBid_1 rfl (by decide) rfl rfl ?_
  exact LP 300 0 (by omega) (by omega) (fun q q1 q2 => by omega) (by omega)
set_option maxHeartbeats 1000000 in
set_option maxRecDepth 20000 in
theorem c_X1_seesAnswers {S : pS} {v g zz oo : Nat} {f : Int → Int} (hv : S v = some (oO 1 [.ref g])) (hg : IsG S g zz oo f) (ok : okF f) {k : Nat} (hk : k ≤ 100) {tw a e : Int} (ht : -10 ≤ tw ∧ tw ≤ 100) (ha : 0 ≤ a) (he : 0 ≤ e) (hs : a + e ≤ 100) (IH : ∀ (tw a e b : Int), -11 ≤ tw → tw ≤ 101 → 0 ≤ a → 0 ≤ e → a + e ≤ 100 → (b = 0 ∨ b = 1) → Ct yX1_seesWin cX1_seesWin 6 (Option.some FieldType.boolean) (4 * k + 1) 0 0 [.ref v, .int (iI (k : Int)), .int (iI tw), .int (iI a), .int (iI e), .int (iI b)] S (kI (bC (fc (f 0) (f 3) (f 2) k tw a e b)) S)) : Ct yX1_seesAnswers cX1_seesAnswers 6 (Option.some FieldType.boolean) (4 * k + 4) 0 0 [.ref v, .int (iI ((k : Int) + 1)), .int (iI tw), .int (iI a), .int (iI e)] S (kI (bC (ansP (f 3) (f 2) (fc (f 0) (f 3) (f 2) k) tw a e)) S) := by
  have ok0 := ok
  obtain ⟨o0, o1, o2, o3, o4, o5, o7, o9, o10, o12, o13, -⟩ := ok
  refine Ct.ofJ (by decide +kernel) (Nat.le_of_ble_eq_true rfl) ?_
  refine J_L (L1 := [some (.ref v), some (.int (iI ((k : Int) + 1))), some (.int (iI tw)), some (.int (iI a)), some (.int (iI e)), none]) rfl ?_
  have LP : ∀ (n9 : Nat) (x : Int), 0 ≤ x → x ≤ 200 → (∀ q, 0 ≤ q → q < x → hsA (f 3) (f 2) (fc (f 0) (f 3) (f 2) k) tw a e q) → 200 - x < n9 → Jd yX1_seesAnswers cX1_seesAnswers 6 (Option.some FieldType.boolean) (4 * k + 4) 0 0 (kI (bC (ansP (f 3) (f 2) (fc (f 0) (f 3) (f 2) k) tw a e)) S) 0 0 S 3 [some (.ref v), some (.int (iI ((k : Int) + 1))), some (.int (iI tw)), some (.int (iI a)), some (.int (iI e)), some (.int (iI x))] [] := by
    intro n9
    induction n9 with
    | zero => intro x x1 x2 x3 x4; omega
    | succ n9 ih =>
      intro x x1 x2 x3 x4
      refine J_iload (pc1 := 5) rfl dX1_seesAnswers_3 rfl ?_
      refine J_iload (pc1 := 7) rfl dX1_seesAnswers_5 rfl ?_
      refine J_icmp_gt (pc1 := 10) (tgt := 32) (by omega) (by omega) (by omega) (by omega) dX1_seesAnswers_7 rfl rfl (fun hc1 => ?_) (fun hc1 => ?_)
      · refine J_iconst (pc1 := 33) dX1_seesAnswers_32 rfl ?_
        exact J_iret rfl rfl dX1_seesAnswers_33 (Nat.le_refl _) (Nat.le_refl _) (kI_mk (bC_t (fun q q1 q2 => x3 q q1 (by omega))).symm)
      · refine J_aload_n (pc1 := 11) rfl (i := 0) rfl dX1_seesAnswers_10 rfl ?_
        refine J_iload_n (pc1 := 12) rfl (i := 1) rfl dX1_seesAnswers_11 rfl ?_
        refine J_iload_n (pc1 := 13) rfl (i := 2) rfl dX1_seesAnswers_12 rfl ?_
        refine J_iload_n (pc1 := 14) rfl (i := 3) rfl dX1_seesAnswers_13 rfl ?_
        refine J_iload (pc1 := 16) rfl dX1_seesAnswers_14 rfl ?_
        refine J_iload (pc1 := 18) rfl dX1_seesAnswers_16 rfl ?_
        refine J_callVI (pc1 := 21) (As := [.int (iI ((k : Int) + 1)), .int (iI tw), .int (iI a), .int (iI e), .int (iI x)]) gv_X1_66 yv_X1_hasAnswer rfl (c_X1_hasAnswer hv hg ok0 hk (tw := tw) (a := a) (e := e) (p := x) ht ha he hs (by omega) IH) dX1_seesAnswers_18 rfl hv rfl rfl (by omega) (by decide) (Nat.zero_le _) (Nat.zero_le _) (Nat.le_of_ble_eq_true rfl) ?_
        refine J_if_ne (pc1 := 24) (tgt := 26) (bC_lo _) (bC_hi _) dX1_seesAnswers_21 rfl rfl (fun hc2 => ?_) (fun hc2 => ?_)
        · refine J_iinc (pc1 := 29) (L1 := [some (.ref v), some (.int (iI ((k : Int) + 1))), some (.int (iI tw)), some (.int (iI a)), some (.int (iI e)), some (.int (iI (x + 1)))]) dX1_seesAnswers_26 rfl rfl (by decide) rfl rfl ?_
          refine J_goto (tgt := 3) dX1_seesAnswers_29 rfl ?_
          refine ih (x + 1) (by omega) (by omega) (fun q q1 q2 => ?_) (by omega)
          rcases Classical.em (q = x) with z | z
          · subst z
            exact bC_1 (by assumption)
          · exact x3 q q1 (by omega)
        · refine J_iconst (pc1 := 25) dX1_seesAnswers_24 rfl ?_
          exact J_iret rfl rfl dX1_seesAnswers_25 (Nat.le_refl _) (Nat.le_refl _) (kI_mk (bC_f (fun z => bC_0 (by assumption) (z x x1 (by omega)))).symm)
  refine J_iconst (pc1 := 1) dX1_seesAnswers_0 rfl ?_
  refine J_istore (pc1 := 3) (L1 := [some (.ref v), some (.int (iI ((k : Int) + 1))), some (.int (iI tw)), some (.int (iI a)), some (.int (iI e)), some (.int (iI 0))]) dX1_seesAnswers_1 rfl (by decide) rfl rfl ?_
  exact LP 300 0 (by omega) (by omega) (fun q q1 q2 => by omega) (by omega)
set_option maxHeartbeats 1000000 in
set_option maxRecDepth 20000 in
theorem c_X1_seesWin0 {S : pS} {v g zz oo : Nat} {f : Int → Int} (hv : S v = some (oO 1 [.ref g])) (hg : IsG S g zz oo f) (ok : okF f) {tw a e b : Int} (ht : -11 ≤ tw ∧ tw ≤ 101) (ha : 0 ≤ a) (he : 0 ≤ e) (hs : a + e ≤ 100) (hb : b = 0 ∨ b = 1) : Ct yX1_seesWin cX1_seesWin 6 (Option.some FieldType.boolean) 1 0 0 [.ref v, .int (iI ((0 : Nat) : Int)), .int (iI tw), .int (iI a), .int (iI e), .int (iI b)] S (kI (bC (fc (f 0) (f 3) (f 2) 0 tw a e b)) S) := by
  obtain ⟨o0, o1, o2, o3, o4, o5, o7, o9, o10, o12, o13, -⟩ := ok
  refine Ct.ofJ (by decide +kernel) (Nat.le_of_ble_eq_true rfl) ?_
  refine J_L (L1 := [some (.ref v), some (.int (iI ((0 : Nat) : Int))), some (.int (iI tw)), some (.int (iI a)), some (.int (iI e)), some (.int (iI b))]) rfl ?_
  refine J_iload_n (pc1 := 1) rfl (i := 2) rfl dX1_seesWin_0 rfl ?_
  refine J_if_gt (pc1 := 4) (tgt := 6) (by omega) (by omega) dX1_seesWin_1 rfl rfl (fun hc1 => ?_) (fun hc1 => ?_)
  · refine J_iload_n (pc1 := 7) rfl (i := 1) rfl dX1_seesWin_6 rfl ?_
    refine J_if_le (pc1 := 10) (tgt := 28) (by omega) (by omega) dX1_seesWin_7 rfl rfl (fun hc2 => ?_) (fun hc2 => ?_)
    · refine J_iconst (pc1 := 29) dX1_seesWin_28 rfl ?_
      exact J_iret rfl rfl dX1_seesWin_29 (Nat.le_refl _) (Nat.le_refl _) (kI_mk (by first | exact (bC_t (show tw ≤ 0 by omega)).symm | exact (bC_f (show ¬ tw ≤ 0 by omega)).symm))
    · exact absurd (by omega) hc2
  · refine J_iconst (pc1 := 5) dX1_seesWin_4 rfl ?_
    exact J_iret rfl rfl dX1_seesWin_5 (Nat.le_refl _) (Nat.le_refl _) (kI_mk (by first | exact (bC_t (show tw ≤ 0 by omega)).symm | exact (bC_f (show ¬ tw ≤ 0 by omega)).symm))
set_option maxHeartbeats 1000000 in
set_option maxRecDepth 20000 in
theorem c_X1_seesWinS {S : pS} {v g zz oo : Nat} {f : Int → Int} (hv : S v = some (oO 1 [.ref g])) (hg : IsG S g zz oo f) (ok : okF f) {k : Nat} (hk : k ≤ 80) {tw a e b : Int} (ht : -11 ≤ tw ∧ tw ≤ 101) (ha : 0 ≤ a) (he : 0 ≤ e) (hs : a + e ≤ 100) (hb : b = 0 ∨ b = 1) (IH : ∀ (tw a e b : Int), -11 ≤ tw → tw ≤ 101 → 0 ≤ a → 0 ≤ e → a + e ≤ 100 → (b = 0 ∨ b = 1) → Ct yX1_seesWin cX1_seesWin 6 (Option.some FieldType.boolean) (4 * k + 1) 0 0 [.ref v, .int (iI (k : Int)), .int (iI tw), .int (iI a), .int (iI e), .int (iI b)] S (kI (bC (fc (f 0) (f 3) (f 2) k tw a e b)) S)) : Ct yX1_seesWin cX1_seesWin 6 (Option.some FieldType.boolean) (4 * k + 5) 0 0 [.ref v, .int (iI ((k : Int) + 1)), .int (iI tw), .int (iI a), .int (iI e), .int (iI b)] S (kI (bC (fc (f 0) (f 3) (f 2) (k + 1) tw a e b)) S) := by
  have ok0 := ok
  obtain ⟨o0, o1, o2, o3, o4, o5, o7, o9, o10, o12, o13, -⟩ := ok
  refine Ct.ofJ (by decide +kernel) (Nat.le_of_ble_eq_true rfl) ?_
  refine J_L (L1 := [some (.ref v), some (.int (iI ((k : Int) + 1))), some (.int (iI tw)), some (.int (iI a)), some (.int (iI e)), some (.int (iI b))]) rfl ?_
  refine J_iload_n (pc1 := 1) rfl (i := 2) rfl dX1_seesWin_0 rfl ?_
  refine J_if_gt (pc1 := 4) (tgt := 6) (by omega) (by omega) dX1_seesWin_1 rfl rfl (fun hc1 => ?_) (fun hc1 => ?_)
  · refine J_iload_n (pc1 := 7) rfl (i := 1) rfl dX1_seesWin_6 rfl ?_
    refine J_if_le (pc1 := 10) (tgt := 28) (by omega) (by omega) dX1_seesWin_7 rfl rfl (fun hc2 => ?_) (fun hc2 => ?_)
    · exact absurd hc2 (by omega)
    · refine J_iload_n (pc1 := 11) rfl (i := 1) rfl dX1_seesWin_10 rfl ?_
      refine J_iload_n (pc1 := 12) rfl (i := 2) rfl dX1_seesWin_11 rfl ?_
      refine J_icmp_lt (pc1 := 15) (tgt := 28) (by omega) (by omega) (by omega) (by omega) dX1_seesWin_12 rfl rfl (fun hc3 => ?_) (fun hc3 => ?_)
      · refine J_iconst (pc1 := 29) dX1_seesWin_28 rfl ?_
        exact J_iret rfl rfl dX1_seesWin_29 (Nat.le_refl _) (Nat.le_refl _) (kI_mk (bC_f (fc_no (by omega) ha he hb (by omega))).symm)
      · refine J_iload_n (pc1 := 16) rfl (i := 2) rfl dX1_seesWin_15 rfl ?_
        refine J_iconst (pc1 := 17) dX1_seesWin_16 rfl ?_
        refine J_aload_n (pc1 := 18) rfl (i := 0) rfl dX1_seesWin_17 rfl ?_
        refine J_get (pc1 := 21) (j := 0) inUX1 (ci := 1) rfl (by decide) lf_X1_9 dX1_seesWin_18 rfl hv rfl ?_
        refine J_get (pc1 := 24) (j := 0) inUX2 (ci := 2) rfl (by decide) lf_X1_38 dX1_seesWin_21 rfl hg.1 rfl ?_
        refine J_imul (pc1 := 25) dX1_seesWin_24 rfl ?_
        refine J_icmp_lt (pc1 := 28) (tgt := 30) (by omega) (by omega) (by omega) (by omega) dX1_seesWin_25 rfl rfl (fun hc4 => ?_) (fun hc4 => ?_)
        · refine J_iload (pc1 := 32) rfl dX1_seesWin_30 rfl ?_
          refine J_if_eq (pc1 := 35) (tgt := 47) (by omega) (by omega) dX1_seesWin_32 rfl rfl (fun hc5 => ?_) (fun hc5 => ?_)
          · refine J_aload_n (pc1 := 48) rfl (i := 0) rfl dX1_seesWin_47 rfl ?_
            refine J_iload_n (pc1 := 49) rfl (i := 1) rfl dX1_seesWin_48 rfl ?_
            refine J_iload_n (pc1 := 50) rfl (i := 2) rfl dX1_seesWin_49 rfl ?_
            refine J_iload_n (pc1 := 51) rfl (i := 3) rfl dX1_seesWin_50 rfl ?_
            refine J_iload (pc1 := 53) rfl dX1_seesWin_51 rfl ?_
            refine J_callVI (pc1 := 56) (As := [.int (iI ((k : Int) + 1)), .int (iI tw), .int (iI a), .int (iI e)]) gv_X1_45 yv_X1_seesAnswers rfl (c_X1_seesAnswers hv hg ok0 (by omega) (tw := tw) (a := a) (e := e) (by omega) ha he hs IH) dX1_seesWin_53 rfl hv rfl rfl (by omega) (by decide) (Nat.zero_le _) (Nat.zero_le _) (Nat.le_of_ble_eq_true rfl) ?_
            exact J_iret rfl (nar_bC _) dX1_seesWin_56 (Nat.le_refl _) (Nat.le_refl _) (kI_mk (bC_c (by rw [show b = 0 by omega]; exact (stP_0 (by omega)).symm)))
          · refine J_aload_n (pc1 := 36) rfl (i := 0) rfl dX1_seesWin_35 rfl ?_
            refine J_iload_n (pc1 := 37) rfl (i := 1) rfl dX1_seesWin_36 rfl ?_
            refine J_iload_n (pc1 := 38) rfl (i := 2) rfl dX1_seesWin_37 rfl ?_
            refine J_iload_n (pc1 := 39) rfl (i := 3) rfl dX1_seesWin_38 rfl ?_
            refine J_iload (pc1 := 41) rfl dX1_seesWin_39 rfl ?_
            refine J_callVI (pc1 := 44) (As := [.int (iI ((k : Int) + 1)), .int (iI tw), .int (iI a), .int (iI e)]) gv_X1_41 yv_X1_seesBid rfl (c_X1_seesBid hv hg ok0 (by omega) (tw := tw) (a := a) (e := e) (by omega) ha he hs IH) dX1_seesWin_41 rfl hv rfl rfl (by omega) (by decide) (Nat.zero_le _) (Nat.zero_le _) (Nat.le_of_ble_eq_true rfl) ?_
            refine J_goto (tgt := 56) dX1_seesWin_44 rfl ?_
            exact J_iret rfl (nar_bC _) dX1_seesWin_56 (Nat.le_refl _) (Nat.le_refl _) (kI_mk (bC_c (by rw [show b = 1 by omega]; exact (stP_1 (by omega)).symm)))
        · refine J_iconst (pc1 := 29) dX1_seesWin_28 rfl ?_
          exact J_iret rfl rfl dX1_seesWin_29 (Nat.le_refl _) (Nat.le_refl _) (kI_mk (bC_f (fc_no (by omega) ha he hb (by omega))).symm)
  · refine J_iconst (pc1 := 5) dX1_seesWin_4 rfl ?_
    exact J_iret rfl rfl dX1_seesWin_5 (Nat.le_refl _) (Nat.le_refl _) (kI_mk (bC_t (Or.inl (by omega))).symm)
/-- Foresight.seesWin: what the rounds force -/
theorem c_X1_seesWin {S : pS} {v g zz oo : Nat} {f : Int → Int} (hv : S v = some (oO 1 [.ref g])) (hg : IsG S g zz oo f) (ok : okF f) : ∀ (k : Nat), k ≤ 80 → ∀ (tw a e b : Int), -11 ≤ tw → tw ≤ 101 → 0 ≤ a → 0 ≤ e → a + e ≤ 100 → (b = 0 ∨ b = 1) → Ct yX1_seesWin cX1_seesWin 6 (Option.some FieldType.boolean) (4 * k + 1) 0 0 [.ref v, .int (iI (k : Int)), .int (iI tw), .int (iI a), .int (iI e), .int (iI b)] S (kI (bC (fc (f 0) (f 3) (f 2) k tw a e b)) S) := by
  intro k
  induction k with
  | zero => exact fun _ tw a e b t1 t2 ha he hs hb => c_X1_seesWin0 hv hg ok ⟨t1, t2⟩ ha he hs hb
  | succ k ih =>
    intro hk tw a e b t1 t2 ha he hs hb
    have h := c_X1_seesWinS hv hg ok (k := k) (by omega) (tw := tw) (a := a) (e := e) (b := b) ⟨t1, t2⟩ ha he hs hb (ih (by omega))
    rw [show ((k : Int) + 1) = ((k + 1 : Nat) : Int) by omega] at h
    exact h
set_option maxHeartbeats 400000 in
set_option maxRecDepth 20000 in
theorem c_X1_seesWinOf {S : pS} {v g zz oo : Nat} {f : Int → Int} (hv : S v = some (oO 1 [.ref g])) (hg : IsG S g zz oo f) (ok : okF f) {p r : Int} (hp : p = 0 ∨ p = 1) (hr : 0 ≤ r ∧ r ≤ 3) : Ct yX1_seesWinOf cX1_seesWinOf 5 (Option.some FieldType.boolean) 14 0 0 [.ref v, .int (iI p), .int (iI r)] S (kI (bC (fc (f 0) (f 3) (f 2) r.toNat (twF f p) (moF f p) (moF f (1 - p)) (bZ (p = f 5)))) S) := by
  have q3 := moF_b (p := p) ok
  have q4 := moF_b (p := 1 - p) ok
  have ok0 := ok
  obtain ⟨o0, o1, o2, o3, o4, o5, o7, o9, o10, o12, o13, -⟩ := ok
  have q5 : -11 ≤ twF f p ∧ twF f p ≤ 101 := by unfold twF; split <;> omega
  have q6 : moF f p + moF f (1 - p) ≤ 32 := by omega
  have er : r = ((r.toNat : Nat) : Int) := by omega
  refine Ct.ofJ (by decide +kernel) (Nat.le_of_ble_eq_true rfl) ?_
  refine J_L (L1 := [some (.ref v), some (.int (iI p)), some (.int (iI r)), none, none]) rfl ?_
  refine J_aload_n (pc1 := 1) rfl (i := 0) rfl dX1_seesWinOf_0 rfl ?_
  refine J_get (pc1 := 4) (j := 0) inUX1 (ci := 1) rfl (by decide) lf_X1_9 dX1_seesWinOf_1 rfl hv rfl ?_
  refine J_iload_n (pc1 := 5) rfl (i := 1) rfl dX1_seesWinOf_4 rfl ?_
  refine J_callVI (pc1 := 8) (As := [.int (iI p)]) gv_X1_15 yv_X2_mostOf rfl (c_X2_mostOf hg (p := p) (by omega)) dX1_seesWinOf_5 rfl hg.1 rfl rfl (by omega) (by decide) (Nat.zero_le _) (Nat.zero_le _) (Nat.le_of_ble_eq_true rfl) ?_
  refine J_istore_n (pc1 := 9) (L1 := [some (.ref v), some (.int (iI p)), some (.int (iI r)), some (.int (iI (moF f p))), none]) rfl (i := 3) dX1_seesWinOf_8 rfl (by decide) rfl rfl ?_
  refine J_aload_n (pc1 := 10) rfl (i := 0) rfl dX1_seesWinOf_9 rfl ?_
  refine J_get (pc1 := 13) (j := 0) inUX1 (ci := 1) rfl (by decide) lf_X1_9 dX1_seesWinOf_10 rfl hv rfl ?_
  refine J_iconst (pc1 := 14) dX1_seesWinOf_13 rfl ?_
  refine J_iload_n (pc1 := 15) rfl (i := 1) rfl dX1_seesWinOf_14 rfl ?_
  refine J_isub (pc1 := 16) dX1_seesWinOf_15 rfl ?_
  refine J_callVI (pc1 := 19) (As := [.int (iI (1 - p))]) gv_X1_15 yv_X2_mostOf rfl (c_X2_mostOf hg (p := 1 - p) (by omega)) dX1_seesWinOf_16 rfl hg.1 rfl rfl (by omega) (by decide) (Nat.zero_le _) (Nat.zero_le _) (Nat.le_of_ble_eq_true rfl) ?_
  refine J_istore (pc1 := 21) (L1 := [some (.ref v), some (.int (iI p)), some (.int (iI r)), some (.int (iI (moF f p))), some (.int (iI (moF f (1 - p))))]) dX1_seesWinOf_19 rfl (by decide) rfl rfl ?_
  refine J_aload_n (pc1 := 22) rfl (i := 0) rfl dX1_seesWinOf_21 rfl ?_
  refine J_iload_n (pc1 := 23) rfl (i := 2) rfl dX1_seesWinOf_22 rfl ?_
  refine J_iconst (pc1 := 24) dX1_seesWinOf_23 rfl ?_
  refine J_min (pc1 := 27) (by omega) (by omega) (by decide) (by decide) lm_X1_21 dX1_seesWinOf_24 rfl (by omega) (Nat.le_of_ble_eq_true rfl) (by omega) (by omega) ?_
  refine J_nm (fun z20 hz20 => ?_)
  rw [show z20 = r by (unfold mn at hz20; split at hz20 <;> omega)]
  refine J_aload_n (pc1 := 28) rfl (i := 0) rfl dX1_seesWinOf_27 rfl ?_
  refine J_get (pc1 := 31) (j := 0) inUX1 (ci := 1) rfl (by decide) lf_X1_9 dX1_seesWinOf_28 rfl hv rfl ?_
  refine J_iload_n (pc1 := 32) rfl (i := 1) rfl dX1_seesWinOf_31 rfl ?_
  refine J_callVI (pc1 := 35) (As := [.int (iI p)]) gv_X1_27 yv_X2_toWin rfl (c_X2_toWin hg hp) dX1_seesWinOf_32 rfl hg.1 rfl rfl (by omega) (by decide) (Nat.zero_le _) (Nat.zero_le _) (Nat.le_of_ble_eq_true rfl) ?_
  refine J_iload_n (pc1 := 36) rfl (i := 3) rfl dX1_seesWinOf_35 rfl ?_
  refine J_iload (pc1 := 38) rfl dX1_seesWinOf_36 rfl ?_
  refine J_iload_n (pc1 := 39) rfl (i := 1) rfl dX1_seesWinOf_38 rfl ?_
  refine J_aload_n (pc1 := 40) rfl (i := 0) rfl dX1_seesWinOf_39 rfl ?_
  refine J_get (pc1 := 43) (j := 0) inUX1 (ci := 1) rfl (by decide) lf_X1_9 dX1_seesWinOf_40 rfl hv rfl ?_
  refine J_get (pc1 := 46) (j := 5) inUX2 (ci := 2) rfl (by decide) lf_X1_30 dX1_seesWinOf_43 rfl hg.1 rfl ?_
  refine J_icmp_ne (pc1 := 49) (tgt := 53) (by omega) (by omega) (by omega) (by omega) dX1_seesWinOf_46 rfl rfl (fun hc1 => ?_) (fun hc1 => ?_)
  · refine J_iconst (pc1 := 54) dX1_seesWinOf_53 rfl ?_
    have hcx := c_X1_seesWin hv hg ok0 r.toNat (by omega) (twF f p) (moF f p) (moF f (1 - p)) 0 (by omega) (by omega) (by omega) (by omega) (by omega) (by omega)
    rw [← er] at hcx
    refine J_callVI (pc1 := 57) (As := [.int (iI r), .int (iI (twF f p)), .int (iI (moF f p)), .int (iI (moF f (1 - p))), .int (iI 0)]) gv_X1_34 yv_X1_seesWin rfl (hcx) dX1_seesWinOf_54 rfl hv rfl rfl (by omega) (by decide) (Nat.zero_le _) (Nat.zero_le _) (Nat.le_of_ble_eq_true rfl) ?_
    exact J_iret rfl (nar_bC _) dX1_seesWinOf_57 (Nat.le_refl _) (Nat.le_refl _) (kI_mk (by first | rw [← bZ_t (show p = f 5 by omega)] | rw [← bZ_f (show ¬ p = f 5 by omega)]))
  · refine J_iconst (pc1 := 50) dX1_seesWinOf_49 rfl ?_
    refine J_goto (tgt := 54) dX1_seesWinOf_50 rfl ?_
    have hcx := c_X1_seesWin hv hg ok0 r.toNat (by omega) (twF f p) (moF f p) (moF f (1 - p)) 1 (by omega) (by omega) (by omega) (by omega) (by omega) (by omega)
    rw [← er] at hcx
    refine J_callVI (pc1 := 57) (As := [.int (iI r), .int (iI (twF f p)), .int (iI (moF f p)), .int (iI (moF f (1 - p))), .int (iI 1)]) gv_X1_34 yv_X1_seesWin rfl (hcx) dX1_seesWinOf_54 rfl hv rfl rfl (by omega) (by decide) (Nat.zero_le _) (Nat.zero_le _) (Nat.le_of_ble_eq_true rfl) ?_
    exact J_iret rfl (nar_bC _) dX1_seesWinOf_57 (Nat.le_refl _) (Nat.le_refl _) (kI_mk (by first | rw [← bZ_t (show p = f 5 by omega)] | rw [← bZ_f (show ¬ p = f 5 by omega)]))
