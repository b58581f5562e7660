/-! 18.ops: the calls of the object -/
def KOR (P : Prop) (x0 x1 : Int) (S : pS) (Q : pS → Prop) : Option Value → pS → Prop := fun r T => (¬ P ∧ r = some (.int (iI x0)) ∧ T = S) ∨ (P ∧ r = some (.int (iI x1)) ∧ Q T)
theorem KOR_0 {P : Prop} {x x0 x1 : Int} {S : pS} {Q : pS → Prop} (h : ¬ P) (e : x = x0) : KOR P x0 x1 S Q (some (.int (iI x))) S := Or.inl ⟨h, by rw [e], rfl⟩
theorem KOR_1 {P : Prop} {x x0 x1 : Int} {S T : pS} {Q : pS → Prop} (h : P) (e : x = x1) (hQ : Q T) : KOR P x0 x1 S Q (some (.int (iI x))) T := Or.inr ⟨h, by rw [e], hQ⟩
theorem agU_lt (h : Int → Int) (i : Int) {n : Nat} (hn : 0 < n) : agU h i n < n := by
  cases n with
  | zero => omega
  | succ n =>
    have := (agU_b h i n).2
    unfold agU
    split <;> omega
theorem ahU_lt (h : Int → Int) (i : Int) {n : Nat} (hn : 0 < n) : ahU h i n < n := by
  cases n with
  | zero => omega
  | succ n =>
    have := (ahU_b h i n).2
    unfold ahU
    split <;> omega
theorem nmF_e {f : Int → Int} (ok : okF f) (p : Int) : ((nmF f p : Nat) : Int) = moF f p + 1 ∧ 0 < nmF f p := by
  have := moF_b (p := p) ok
  unfold nmF
  omega
theorem fbF_b {f : Int → Int} (ok : okF f) : 0 ≤ fbF f ∧ fbF f ≤ moF f (f 5) := by
  obtain ⟨e1, e2⟩ := nmF_e ok (f 5)
  have h1 := agU_b (loF f) 9 (nmF f (f 5))
  have h2 := agU_lt (loF f) 9 e2
  have h3 := ahU_b (leF f) (-1) (nmF f (f 5))
  have h4 := ahU_lt (leF f) (-1) e2
  unfold fbF fdF
  split <;> omega
theorem faF_b {f : Int → Int} (ok : okF f) (b : Int) : 0 ≤ faF f b ∧ faF f b ≤ moF f (1 - f 5) := by
  obtain ⟨e1, e2⟩ := nmF_e ok (1 - f 5)
  have h1 := agU_b (fun a => tbh f (1 - f 5) b a) 9 (nmF f (1 - f 5))
  have h2 := agU_lt (fun a => tbh f (1 - f 5) b a) 9 e2
  have h3 := ahU_b (fun a => tbh f (f 5) b a) (-1) (nmF f (1 - f 5))
  have h4 := ahU_lt (fun a => tbh f (f 5) b a) (-1) e2
  unfold faF
  split <;> omega
theorem win_o {f : Int → Int} (h : winE (f 0) (f 4) = -1006) : -f 0 < f 4 ∧ f 4 < f 0 := by
  unfold winE at h
  (repeat' split at h) <;> omega
theorem XW_tb {X : Nat → Prop} {S T : pS} {A : Nat → Nat} {G Z O : Nat → Nat} {F : Nat → Int → Int} {mm n : Nat} {tb : Int → Option Nat} {tx : Int → Int} {L : Nat} {b0 b1 : Int} (h : XW X S A G Z O F mm n tb tx L b0 b1) (hB : KTB S (A 1) (A 2) n mm G Z O F T) : XW X T A G Z O (upN F 0 (F (3 + (n - 1)))) mm (n - 1) tb tx L b0 b1 ∧ frX S T (A 6) := by
  obtain ⟨x0, ⟨h1, ⟨st, h2, h3⟩, h4⟩, x2, x3, x4, x5, ⟨p1, p2, p3⟩, ⟨m1, m2, m3⟩, x8, x9⟩ := h
  obtain ⟨k1, k2, k3⟩ := hB
  obtain ⟨g1, g2, g3, g4⟩ := x2.1 0 (by omega)
  have ko : ∀ {a ci : Nat} {fs : List Value}, S a = some (oO ci fs) → ci ≠ 2 → ci ≠ 6 → ci ≠ 3 → T a = S a := fun ha c2 c6 c3 => k3 _ (ne_ci ha h1 c3) (ne_ci ha g1 c2) (ne_ci ha g2 c6) (ne_ci ha g3 c6)
  have ki : ∀ {a k : Nat} {f : Nat → Int32}, S a = some (oI k f) → T a = S a := fun ha => k3 _ (ne_IO ha h1) (ne_IO ha g1) (ne_IO ha g2) (ne_IO ha g3)
  have kq : ∀ {a j k : Nat} {f : Nat → Option Nat}, S a = some (oQ j k f) → T a = S a := fun ha => k3 _ (ne_QO ha h1) (ne_QO ha g1) (ne_QO ha g2) (ne_QO ha g3)
  refine ⟨⟨(ko x0 (by decide) (by decide) (by decide)).trans x0, k1, k2, (ko x3 (by decide) (by decide) (by decide)).trans x3, (ko x4 (by decide) (by decide) (by decide)).trans x4, x5, ⟨(ko p1 (by decide) (by decide) (by decide)).trans p1, (ki p2).trans p2, p3⟩, ⟨(ko m1 (by decide) (by decide) (by decide)).trans m1, (kq m2).trans m2, fun E ti ps top t ok ht => ?_⟩, (ko x8 (by decide) (by decide) (by decide)).trans x8, (ko x9 (by decide) (by decide) (by decide)).trans x9⟩, fun a fs ha => ko ha (by decide) (by decide) (by decide), fun a k f ha _ => ki ha⟩
  obtain ⟨ow, fo, tm, w, k, tg, ⟨t1, t2, t3, t4, t5⟩, t6⟩ := m3 E ti ps top t ok ht
  exact ⟨ow, fo, tm, w, k, tg, ⟨(ko t1 (by decide) (by decide) (by decide)).trans t1, (ki t2).trans t2, (ki t3).trans t3, (ki t4).trans t4, t5⟩, t6⟩
theorem XS_tb {X : Nat → Prop} {S T : pS} {A : Nat → Nat} {G Z O : Nat → Nat} {F : Nat → Int → Int} {mm n : Nat} {tb : Int → Option Nat} {tx : Int → Int} {L : Nat} {b0 b1 : Int} {f f1 f2 : Int → Int} {H : Nat → Int → Int} (h : XW X S A G Z O F mm n tb tx L b0 b1) (_ : F 0 = f) (e1 : F 1 = f1) (e2 : F 2 = f2) (eH : ∀ i, i < n → F (3 + i) = H i) (hn : 0 < n) (hB : KTB S (A 1) (A 2) n mm G Z O F T) : XS X T A (H (n - 1)) f1 f2 b0 b1 (n - 1) H tx L ∧ frX S T (A 6) :=
  ⟨⟨G, Z, O, upN F 0 (F (3 + (n - 1))), mm, tb, (XW_tb h hB).1, (upN_s _ _ _).trans (eH (n - 1) (by omega)), (upN_n _ _ (by decide)).trans e1, (upN_n _ _ (by decide)).trans e2, fun i hi => (upN_n _ _ (by omega)).trans (eH i (by omega))⟩, (XW_tb h hB).2⟩
/-- a slot is written -/
theorem XS_sv {X : Nat → Prop} {S T : pS} {A : Nat → Nat} {G Z O : Nat → Nat} {F : Nat → Int → Int} {mm n : Nat} {tb : Int → Option Nat} {tx : Int → Int} {L : Nat} {b0 b1 : Int} {f f1 f2 : Int → Int} {H : Nat → Int → Int} (h : XW X S A G Z O F mm n tb tx L b0 b1) (e0 : F 0 = f) (e1 : F 1 = f1) (e2 : F 2 = f2) (eH : ∀ i, i < n → F (3 + i) = H i) {i : Nat} (hi : i = 1 ∨ i = 2) {a9 : Nat} (ha9 : (i = 1 ∧ a9 = A 3) ∨ (i = 2 ∧ a9 = A 4)) (hU : UG S (G i) (Z i) (O i) f T) : XS X (pu T a9 (oO 7 [.ref (G i), .int (iI 1)])) A f (if i = 1 then f else f1) (if i = 2 then f else f2) (if i = 1 then 1 else b0) (if i = 2 then 1 else b1) n H tx L ∧ frX S (pu T a9 (oO 7 [.ref (G i), .int (iI 1)])) (A 6) := by
  obtain ⟨x0, ⟨h1, ⟨st, h2, h3⟩, h4⟩, x2, x3, x4, x5, ⟨p1, p2, p3⟩, ⟨m1, m2, m3⟩, x8, x9⟩ := h
  obtain ⟨g1, g2, g3, g4⟩ := x2.1 i (by omega)
  have hs9 : ∃ gs, S a9 = some (oO 7 gs) := by
    rcases ha9 with ⟨_, rfl⟩ | ⟨_, rfl⟩
    · exact ⟨_, x3⟩
    · exact ⟨_, x4⟩
  obtain ⟨gs, hs9⟩ := hs9
  have kt : ∀ {a ci : Nat} {fs : List Value}, S a = some (oO ci fs) → ci ≠ 2 → ci ≠ 6 → T a = S a := fun ha c2 c6 => hU.2 _ (ne_ci ha g1 c2) (ne_ci ha g2 c6) (ne_ci ha g3 c6)
  have ko : ∀ {a ci : Nat} {fs : List Value}, S a = some (oO ci fs) → ci ≠ 2 → ci ≠ 6 → ci ≠ 7 → pu T a9 (oO 7 [.ref (G i), .int (iI 1)]) a = S a := fun ha c2 c6 c7 => (pu_ne _ _ (ne_ci ha hs9 c7)).trans (kt ha c2 c6)
  have ki : ∀ {a k : Nat} {f : Nat → Int32}, S a = some (oI k f) → pu T a9 (oO 7 [.ref (G i), .int (iI 1)]) a = S a := fun ha => (pu_ne _ _ (ne_IO ha hs9)).trans (hU.2 _ (ne_IO ha g1) (ne_IO ha g2) (ne_IO ha g3))
  have kq : ∀ {a j k : Nat} {f : Nat → Option Nat}, S a = some (oQ j k f) → pu T a9 (oO 7 [.ref (G i), .int (iI 1)]) a = S a := fun ha => (pu_ne _ _ (ne_QO ha hs9)).trans (hU.2 _ (ne_QO ha g1) (ne_QO ha g2) (ne_QO ha g3))
  have t9 : T a9 = some (oO 7 gs) := (kt hs9 (by decide) (by decide)).trans hs9
  refine ⟨⟨G, Z, O, upN F i f, mm, tb, ⟨(ko x0 (by decide) (by decide) (by decide)).trans x0, ⟨(ko h1 (by decide) (by decide) (by decide)).trans h1, ⟨st, (kq h2).trans h2, h3⟩, h4⟩, FAM_fr (FAM_set x2 (by omega) hU) (fun a ci fs ha hc => pu_ne _ _ (ne_ci ha t9 (by omega))), ?_, ?_, x5, ⟨(ko p1 (by decide) (by decide) (by decide)).trans p1, (ki p2).trans p2, p3⟩, ⟨(ko m1 (by decide) (by decide) (by decide)).trans m1, (kq m2).trans m2, fun E ti ps top t ok ht => ?_⟩, (ko x8 (by decide) (by decide) (by decide)).trans x8, (ko x9 (by decide) (by decide) (by decide)).trans x9⟩, (upN_n _ _ (by omega)).trans e0, ?_, ?_, fun j hj => (upN_n _ _ (by omega)).trans (eH j hj)⟩, fun a fs ha => ko ha (by decide) (by decide) (by decide), fun a k f ha _ => ki ha⟩
  · rcases ha9 with ⟨rfl, rfl⟩ | ⟨rfl, rfl⟩
    · rw [if_pos rfl]; exact pu_self _ _ _
    · rw [if_neg (by decide)]; exact (pu_ne _ _ x5).trans ((kt x3 (by decide) (by decide)).trans x3)
  · rcases ha9 with ⟨rfl, rfl⟩ | ⟨rfl, rfl⟩
    · rw [if_neg (by decide)]; exact (pu_ne _ _ x5.symm).trans ((kt x4 (by decide) (by decide)).trans x4)
    · rw [if_pos rfl]; exact pu_self _ _ _
  · obtain ⟨ow, fo, tm, w, k, tg, ⟨t1, t2, t3, t4, t5⟩, t6⟩ := m3 E ti ps top t ok ht
    exact ⟨ow, fo, tm, w, k, tg, ⟨(ko t1 (by decide) (by decide) (by decide)).trans t1, (ki t2).trans t2, (ki t3).trans t3, (ki t4).trans t4, t5⟩, t6⟩
  · rcases hi with rfl | rfl
    · rw [if_pos rfl]; exact upN_s _ _ _
    · rw [if_neg (by decide)]; exact (upN_n _ _ (by decide)).trans e1
  · rcases hi with rfl | rfl
    · rw [if_neg (by decide)]; exact (upN_n _ _ (by decide)).trans e2
    · rw [if_pos rfl]; exact upN_s _ _ _
set_option maxHeartbeats 1000000 in
set_option maxRecDepth 20000 in
theorem c_X9_set {X : Nat → Prop} {S : pS} {A : Nat → Nat} {f f1 f2 : Int → Int} {b0 b1 : Int} {n : Nat} {H : Nat → Int → Int} {tx : Int → Int} {L : Nat} (hX : XS X S A f f1 f2 b0 b1 n H tx L) (ok : okX f f1 f2 b0 b1 n H) {k v : Int} (hk : -2147483648 ≤ k ∧ k < 2147483648) (hv : -2147483648 ≤ v ∧ v < 2147483648) : Ct yX9_set cX9_set 4 (Option.some FieldType.int) 4 3 20 [.ref (A 0), .int (iI k), .int (iI v)] S (KOR ((0 ≤ k ∧ k ≤ 3) ∧ (if k = 0 then 1 else 0) ≤ v ∧ v ≤ (if k = 0 then 3 else if k = 1 then 2 else 1)) (-1002) (f k) S (fun T => XS X T A (newF (uZ f k v)) f1 f2 b0 b1 (kpN n) (kpH n f H) tx L ∧ frX S T (A 6))) := by
  obtain ⟨G, Z, O, F, mm, tb, W, e0, e1, e2, eH⟩ := id hX
  have hg : IsG S (G 0) (Z 0) (O 0) f := e0 ▸ W.2.2.1.1 0 (by omega)
  have hk0 := hk
  refine Ct.ofJ (by decide +kernel) (Nat.le_of_ble_eq_true rfl) ?_
  refine J_L (L1 := [some (.ref (A 0)), some (.int (iI k)), some (.int (iI v)), none]) rfl ?_
  refine J_iload_n (pc1 := 1) rfl (i := 1) rfl dX9_set_0 rfl ?_
  refine J_callSI (pc1 := 4) (As := [.int (iI k)]) gs_X9_63 yv_X9_isSetting (c_X9_isSetting (v := k) (by omega)) dX9_set_1 rfl rfl rfl (by omega) (by decide) (by omega) (by omega) (Nat.le_of_ble_eq_true rfl) ?_
  refine J_if_eq (pc1 := 7) (tgt := 23) (bC_lo _) (bC_hi _) dX9_set_4 rfl rfl (fun hc1 => ?_) (fun hc1 => ?_)
  · refine J_sipush (pc1 := 26) (by decide) dX9_set_23 rfl ?_
    exact J_iret rfl rfl dX9_set_26 (by omega) (by omega) (KOR_0 (fun z => by first | exact bC_0 (by assumption) z.1 | omega) rfl)
  · have hk : 0 ≤ k ∧ k ≤ 3 := bC_1 (by assumption)
    refine J_iload_n (pc1 := 8) rfl (i := 2) rfl dX9_set_7 rfl ?_
    refine J_iload_n (pc1 := 9) rfl (i := 1) rfl dX9_set_8 rfl ?_
    refine J_callSI (pc1 := 12) (As := [.int (iI k)]) gs_X9_67 yv_X9_leastSetting (c_X9_leastSetting hk0) dX9_set_9 rfl rfl rfl (by omega) (by decide) (by omega) (by omega) (Nat.le_of_ble_eq_true rfl) ?_
    refine J_icmp_lt (pc1 := 15) (tgt := 23) (by omega) (by omega) (by omega) (by omega) dX9_set_12 rfl rfl (fun hc2 => ?_) (fun hc2 => ?_)
    · refine J_sipush (pc1 := 26) (by decide) dX9_set_23 rfl ?_
      exact J_iret rfl rfl dX9_set_26 (by omega) (by omega) (KOR_0 (fun z => by first | exact bC_0 (by assumption) z.1 | omega) rfl)
    · refine J_iload_n (pc1 := 16) rfl (i := 2) rfl dX9_set_15 rfl ?_
      refine J_iload_n (pc1 := 17) rfl (i := 1) rfl dX9_set_16 rfl ?_
      refine J_callSI (pc1 := 20) (As := [.int (iI k)]) gs_X9_71 yv_X9_mostSetting (c_X9_mostSetting hk) dX9_set_17 rfl rfl rfl (by omega) (by decide) (by omega) (by omega) (Nat.le_of_ble_eq_true rfl) ?_
      refine J_icmp_le (pc1 := 23) (tgt := 27) (by omega) (by omega) (by omega) (by omega) dX9_set_20 rfl rfl (fun hc3 => ?_) (fun hc3 => ?_)
      · refine J_aload_n (pc1 := 28) rfl (i := 0) rfl dX9_set_27 rfl ?_
        refine J_get (pc1 := 31) (j := 0) inUX9 (ci := 9) rfl (by decide) lf_X9_12 dX9_set_28 rfl W.1 rfl ?_
        refine J_iload_n (pc1 := 32) rfl (i := 1) rfl dX9_set_31 rfl ?_
        refine J_callVI (pc1 := 35) (As := [.int (iI k)]) gv_X9_74 yv_X2_settingOf rfl (c_X2_settingOf hg hk) dX9_set_32 rfl hg.1 rfl rfl (by omega) (by decide) (by omega) (by omega) (Nat.le_of_ble_eq_true rfl) ?_
        refine J_istore_n (pc1 := 36) (L1 := [some (.ref (A 0)), some (.int (iI k)), some (.int (iI v)), some (.int (iI (f k)))]) rfl (i := 3) dX9_set_35 rfl (by decide) rfl rfl ?_
        refine J_aload_n (pc1 := 37) rfl (i := 0) rfl dX9_set_36 rfl ?_
        refine J_get (pc1 := 40) (j := 1) inUX9 (ci := 9) rfl (by decide) lf_X9_19 dX9_set_37 rfl W.1 rfl ?_
        refine J_aload_n (pc1 := 41) rfl (i := 0) rfl dX9_set_40 rfl ?_
        refine J_get (pc1 := 44) (j := 0) inUX9 (ci := 9) rfl (by decide) lf_X9_12 dX9_set_41 rfl W.1 rfl ?_
        refine J_callVNs (pc1 := 47) (As := [.ref (G 0)]) gv_X9_77 yv_X3_keepState rfl (c_X3_keepState W.2.1 W.2.2.1) dX9_set_44 rfl W.2.1.1 rfl rfl (by omega) (by decide) (by omega) (by omega) (Nat.le_of_ble_eq_true rfl) (fun T1 hK1 => ?_)
        obtain ⟨hX1, fr1⟩ := XS_keep W e0 e1 e2 eH hK1
        obtain ⟨G1, Z1, O1, F1, mm1, tb1, W1, e01, e11, e21, eH1⟩ := id hX1
        have hg1 : IsG T1 (G1 0) (Z1 0) (O1 0) f := e01 ▸ W1.2.2.1.1 0 (by omega)
        refine J_aload_n (pc1 := 48) rfl (i := 0) rfl dX9_set_47 rfl ?_
        refine J_get (pc1 := 51) (j := 0) inUX9 (ci := 9) rfl (by decide) lf_X9_12 dX9_set_48 rfl W1.1 rfl ?_
        refine J_iload_n (pc1 := 52) rfl (i := 1) rfl dX9_set_51 rfl ?_
        refine J_iload_n (pc1 := 53) rfl (i := 2) rfl dX9_set_52 rfl ?_
        refine J_callVNs (pc1 := 56) (As := [.int (iI k), .int (iI v)]) gv_X9_80 yv_X2_changeSetting rfl (c_X2_changeSetting hg1 hk) dX9_set_53 rfl hg1.1 rfl rfl (by omega) (by decide) (by omega) (by omega) (Nat.le_of_ble_eq_true rfl) (fun T2 hU2 => ?_)
        obtain ⟨hX2, fr2⟩ := XS_ug W1 e11 e21 eH1 hU2
        obtain ⟨G2, Z2, O2, F2, mm2, tb2, W2, e02, e12, e22, eH2⟩ := id hX2
        have hg2 : IsG T2 (G2 0) (Z2 0) (O2 0) (uZ f k v) := e02 ▸ W2.2.2.1.1 0 (by omega)
        refine J_aload_n (pc1 := 57) rfl (i := 0) rfl dX9_set_56 rfl ?_
        refine J_get (pc1 := 60) (j := 0) inUX9 (ci := 9) rfl (by decide) lf_X9_12 dX9_set_57 rfl W2.1 rfl ?_
        refine J_callVNs (pc1 := 63) (As := []) gv_X9_84 yv_X2_startAnew rfl (c_X2_startAnew hg2) dX9_set_60 rfl hg2.1 rfl rfl (by omega) (by decide) (by omega) (by omega) (Nat.le_of_ble_eq_true rfl) (fun T3 hU3 => ?_)
        obtain ⟨hX3, fr3⟩ := XS_ug W2 e12 e22 eH2 hU3
        obtain ⟨G3, Z3, O3, F3, mm3, tb3, W3, e03, e13, e23, eH3⟩ := id hX3
        have hg3 : IsG T3 (G3 0) (Z3 0) (O3 0) (newF (uZ f k v)) := e03 ▸ W3.2.2.1.1 0 (by omega)
        refine J_iload_n (pc1 := 64) rfl (i := 3) rfl dX9_set_63 rfl ?_
        exact J_iret rfl rfl dX9_set_64 (by omega) (by omega) (KOR_1 ⟨hk, by omega, by omega⟩ rfl ⟨hX3, (frX.tr (frX.tr fr1 fr2) fr3)⟩)
      · refine J_sipush (pc1 := 26) (by decide) dX9_set_23 rfl ?_
        exact J_iret rfl rfl dX9_set_26 (by omega) (by omega) (KOR_0 (fun z => by first | exact bC_0 (by assumption) z.1 | omega) rfl)
set_option maxHeartbeats 1000000 in
set_option maxRecDepth 20000 in
theorem c_X9_begin {X : Nat → Prop} {S : pS} {A : Nat → Nat} {f f1 f2 : Int → Int} {b0 b1 : Int} {n : Nat} {H : Nat → Int → Int} {tx : Int → Int} {L : Nat} (hX : XS X S A f f1 f2 b0 b1 n H tx L) (ok : okX f f1 f2 b0 b1 n H) {a b : Int} (ha : -2147483648 ≤ a ∧ a < 2147483648) (hb : -2147483648 ≤ b ∧ b < 2147483648) : Ct yX9_begin cX9_begin 4 (Option.some FieldType.int) 4 3 20 [.ref (A 0), .int (iI a), .int (iI b)] S (KOR ((0 ≤ a ∧ a ≤ 6) ∧ 0 ≤ b ∧ b ≤ 6) (-1002) (f 6) S (fun T => XS X T A (newF (uZ (uZ f 9 a) 10 b)) f1 f2 b0 b1 (kpN n) (kpH n f H) tx L ∧ frX S T (A 6))) := by
  obtain ⟨G, Z, O, F, mm, tb, W, e0, e1, e2, eH⟩ := id hX
  have hg : IsG S (G 0) (Z 0) (O 0) f := e0 ▸ W.2.2.1.1 0 (by omega)
  refine Ct.ofJ (by decide +kernel) (Nat.le_of_ble_eq_true rfl) ?_
  refine J_L (L1 := [some (.ref (A 0)), some (.int (iI a)), some (.int (iI b)), none]) rfl ?_
  refine J_iload_n (pc1 := 1) rfl (i := 1) rfl dX9_begin_0 rfl ?_
  refine J_iconst (pc1 := 2) dX9_begin_1 rfl ?_
  refine J_bipush (pc1 := 4) (by decide) dX9_begin_2 rfl ?_
  refine J_callSI (pc1 := 7) (As := [.int (iI a), .int (iI 0), .int (iI 6)]) gs_X9_87 yv_X9_isBetween (c_X9_isBetween (v := a) (a := 0) (b := 6) (by omega) (by omega) (by omega)) dX9_begin_4 rfl rfl rfl (by omega) (by decide) (by omega) (by omega) (Nat.le_of_ble_eq_true rfl) ?_
  refine J_if_eq (pc1 := 10) (tgt := 20) (bC_lo _) (bC_hi _) dX9_begin_7 rfl rfl (fun hc1 => ?_) (fun hc1 => ?_)
  · refine J_sipush (pc1 := 23) (by decide) dX9_begin_20 rfl ?_
    exact J_iret rfl rfl dX9_begin_23 (by omega) (by omega) (KOR_0 (fun z => by first | exact bC_0 (by assumption) z.1 | exact bC_0 (by assumption) z.2) rfl)
  · refine J_iload_n (pc1 := 11) rfl (i := 2) rfl dX9_begin_10 rfl ?_
    refine J_iconst (pc1 := 12) dX9_begin_11 rfl ?_
    refine J_bipush (pc1 := 14) (by decide) dX9_begin_12 rfl ?_
    refine J_callSI (pc1 := 17) (As := [.int (iI b), .int (iI 0), .int (iI 6)]) gs_X9_87 yv_X9_isBetween (c_X9_isBetween (v := b) (a := 0) (b := 6) (by omega) (by omega) (by omega)) dX9_begin_14 rfl rfl rfl (by omega) (by decide) (by omega) (by omega) (Nat.le_of_ble_eq_true rfl) ?_
    refine J_if_ne (pc1 := 20) (tgt := 24) (bC_lo _) (bC_hi _) dX9_begin_17 rfl rfl (fun hc2 => ?_) (fun hc2 => ?_)
    · refine J_aload_n (pc1 := 25) rfl (i := 0) rfl dX9_begin_24 rfl ?_
      refine J_get (pc1 := 28) (j := 0) inUX9 (ci := 9) rfl (by decide) lf_X9_12 dX9_begin_25 rfl W.1 rfl ?_
      refine J_get (pc1 := 31) (j := 6) inUX2 (ci := 2) rfl (by decide) lf_X9_91 dX9_begin_28 rfl hg.1 rfl ?_
      refine J_istore_n (pc1 := 32) (L1 := [some (.ref (A 0)), some (.int (iI a)), some (.int (iI b)), some (.int (iI (f 6)))]) rfl (i := 3) dX9_begin_31 rfl (by decide) rfl rfl ?_
      refine J_aload_n (pc1 := 33) rfl (i := 0) rfl dX9_begin_32 rfl ?_
      refine J_get (pc1 := 36) (j := 1) inUX9 (ci := 9) rfl (by decide) lf_X9_19 dX9_begin_33 rfl W.1 rfl ?_
      refine J_aload_n (pc1 := 37) rfl (i := 0) rfl dX9_begin_36 rfl ?_
      refine J_get (pc1 := 40) (j := 0) inUX9 (ci := 9) rfl (by decide) lf_X9_12 dX9_begin_37 rfl W.1 rfl ?_
      refine J_callVNs (pc1 := 43) (As := [.ref (G 0)]) gv_X9_77 yv_X3_keepState rfl (c_X3_keepState W.2.1 W.2.2.1) dX9_begin_40 rfl W.2.1.1 rfl rfl (by omega) (by decide) (by omega) (by omega) (Nat.le_of_ble_eq_true rfl) (fun T1 hK1 => ?_)
      obtain ⟨hX1, fr1⟩ := XS_keep W e0 e1 e2 eH hK1
      obtain ⟨G1, Z1, O1, F1, mm1, tb1, W1, e01, e11, e21, eH1⟩ := id hX1
      have hg1 : IsG T1 (G1 0) (Z1 0) (O1 0) f := e01 ▸ W1.2.2.1.1 0 (by omega)
      refine J_aload_n (pc1 := 44) rfl (i := 0) rfl dX9_begin_43 rfl ?_
      refine J_get (pc1 := 47) (j := 0) inUX9 (ci := 9) rfl (by decide) lf_X9_12 dX9_begin_44 rfl W1.1 rfl ?_
      refine J_get (pc1 := 50) (j := 8) inUX2 (ci := 2) rfl (by decide) lf_X9_95 dX9_begin_47 rfl hg1.1 rfl ?_
      refine J_iload_n (pc1 := 51) rfl (i := 1) rfl dX9_begin_50 rfl ?_
      refine J_put (pc1 := 54) (ty := .int) (j := 0) (fs1 := [.int (iI a), .int (iI (f 7)), .int (iI (f 11)), .int (iI (f 13)), .int (iI (f 15))]) inUX6 (ci := 6) rfl (by decide) tyX6 tyX6_ok nmX6 rfl (by decide +kernel) lf_X9_99 dX9_begin_51 rfl hg1.2.1 rfl (by rfl) (Nat.le_of_ble_eq_true rfl) rfl ?_
      have hU2 : UG T1 (G1 0) (Z1 0) (O1 0) (uZ f 9 a) (pu T1 (Z1 0) (oO 6 [.int (iI a), .int (iI (f 7)), .int (iI (f 11)), .int (iI (f 13)), .int (iI (f 15))])) := ⟨⟨(((pu_ne _ _ (ne_ci hg1.1 hg1.2.1 (by decide))).trans hg1.1)), (pu_self _ _ _), ((pu_ne _ _ (Ne.symm hg1.2.2.2)).trans hg1.2.2.1), hg1.2.2.2⟩, fun x x1 x2 x3 => pu_ne _ _ x2⟩
      generalize hT2 : (pu T1 (Z1 0) (oO 6 [.int (iI a), .int (iI (f 7)), .int (iI (f 11)), .int (iI (f 13)), .int (iI (f 15))])) = T2 at hU2 ⊢
      obtain ⟨hX2, fr2⟩ := XS_ug W1 e11 e21 eH1 hU2
      obtain ⟨G2, Z2, O2, F2, mm2, tb2, W2, e02, e12, e22, eH2⟩ := id hX2
      have hg2 : IsG T2 (G2 0) (Z2 0) (O2 0) (uZ f 9 a) := e02 ▸ W2.2.2.1.1 0 (by omega)
      refine J_aload_n (pc1 := 55) rfl (i := 0) rfl dX9_begin_54 rfl ?_
      refine J_get (pc1 := 58) (j := 0) inUX9 (ci := 9) rfl (by decide) lf_X9_12 dX9_begin_55 rfl W2.1 rfl ?_
      refine J_get (pc1 := 61) (j := 9) inUX2 (ci := 2) rfl (by decide) lf_X9_104 dX9_begin_58 rfl hg2.1 rfl ?_
      refine J_iload_n (pc1 := 62) rfl (i := 2) rfl dX9_begin_61 rfl ?_
      refine J_put (pc1 := 65) (ty := .int) (j := 0) (fs1 := [.int (iI b), .int (iI ((uZ f 9 a) 8)), .int (iI ((uZ f 9 a) 12)), .int (iI ((uZ f 9 a) 14)), .int (iI ((uZ f 9 a) 16))]) inUX6 (ci := 6) rfl (by decide) tyX6 tyX6_ok nmX6 rfl (by decide +kernel) lf_X9_99 dX9_begin_62 rfl hg2.2.2.1 rfl (by rfl) (Nat.le_of_ble_eq_true rfl) rfl ?_
      have hU3 : UG T2 (G2 0) (Z2 0) (O2 0) (uZ (uZ f 9 a) 10 b) (pu T2 (O2 0) (oO 6 [.int (iI b), .int (iI ((uZ f 9 a) 8)), .int (iI ((uZ f 9 a) 12)), .int (iI ((uZ f 9 a) 14)), .int (iI ((uZ f 9 a) 16))])) := ⟨⟨(((pu_ne _ _ (ne_ci hg2.1 hg2.2.2.1 (by decide))).trans hg2.1)), ((pu_ne _ _ hg2.2.2.2).trans hg2.2.1), (pu_self _ _ _), hg2.2.2.2⟩, fun x x1 x2 x3 => pu_ne _ _ x3⟩
      generalize hT3 : (pu T2 (O2 0) (oO 6 [.int (iI b), .int (iI ((uZ f 9 a) 8)), .int (iI ((uZ f 9 a) 12)), .int (iI ((uZ f 9 a) 14)), .int (iI ((uZ f 9 a) 16))])) = T3 at hU3 ⊢
      obtain ⟨hX3, fr3⟩ := XS_ug W2 e12 e22 eH2 hU3
      obtain ⟨G3, Z3, O3, F3, mm3, tb3, W3, e03, e13, e23, eH3⟩ := id hX3
      have hg3 : IsG T3 (G3 0) (Z3 0) (O3 0) (uZ (uZ f 9 a) 10 b) := e03 ▸ W3.2.2.1.1 0 (by omega)
      refine J_aload_n (pc1 := 66) rfl (i := 0) rfl dX9_begin_65 rfl ?_
      refine J_get (pc1 := 69) (j := 0) inUX9 (ci := 9) rfl (by decide) lf_X9_12 dX9_begin_66 rfl W3.1 rfl ?_
      refine J_callVNs (pc1 := 72) (As := []) gv_X9_84 yv_X2_startAnew rfl (c_X2_startAnew hg3) dX9_begin_69 rfl hg3.1 rfl rfl (by omega) (by decide) (by omega) (by omega) (Nat.le_of_ble_eq_true rfl) (fun T4 hU4 => ?_)
      obtain ⟨hX4, fr4⟩ := XS_ug W3 e13 e23 eH3 hU4
      obtain ⟨G4, Z4, O4, F4, mm4, tb4, W4, e04, e14, e24, eH4⟩ := id hX4
      have hg4 : IsG T4 (G4 0) (Z4 0) (O4 0) (newF (uZ (uZ f 9 a) 10 b)) := e04 ▸ W4.2.2.1.1 0 (by omega)
      refine J_iload_n (pc1 := 73) rfl (i := 3) rfl dX9_begin_72 rfl ?_
      exact J_iret rfl rfl dX9_begin_73 (by omega) (by omega) (KOR_1 ⟨bC_1 (by assumption), bC_1 (by assumption)⟩ rfl ⟨hX4, (frX.tr (frX.tr (frX.tr fr1 fr2) fr3) fr4)⟩)
    · refine J_sipush (pc1 := 23) (by decide) dX9_begin_20 rfl ?_
      exact J_iret rfl rfl dX9_begin_23 (by omega) (by omega) (KOR_0 (fun z => by first | exact bC_0 (by assumption) z.1 | exact bC_0 (by assumption) z.2) rfl)
set_option maxHeartbeats 1000000 in
set_option maxRecDepth 20000 in
theorem c_X9_round {X : Nat → Prop} {S : pS} {A : Nat → Nat} {f f1 f2 : Int → Int} {b0 b1 : Int} {n : Nat} {H : Nat → Int → Int} {tx : Int → Int} {L : Nat} (hX : XS X S A f f1 f2 b0 b1 n H tx L) (ok : okX f f1 f2 b0 b1 n H) {b a : Int} (hb : -2147483648 ≤ b ∧ b < 2147483648) (ha : -2147483648 ≤ a ∧ a < 2147483648) : Ct yX9_round cX9_round 3 (Option.some FieldType.int) 4 3 20 [.ref (A 0), .int (iI b), .int (iI a)] S (KOR (((0 ≤ b ∧ b ≤ 14) ∧ (0 ≤ a ∧ a ≤ 14)) ∧ alF f b a) (if ((0 ≤ b ∧ b ≤ 14) ∧ (0 ≤ a ∧ a ≤ 14)) then -1005 else -1002) (tkF f b a) S (fun T => XS X T A (plF f b a) f1 f2 b0 b1 (kpN n) (kpH n f H) tx L ∧ frX S T (A 6))) := by
  obtain ⟨G, Z, O, F, mm, tb, W, e0, e1, e2, eH⟩ := id hX
  have hg : IsG S (G 0) (Z 0) (O 0) f := e0 ▸ W.2.2.1.1 0 (by omega)
  obtain ⟨o0, o1, o2, o3, o4, o5, o7, o9, o10, o12, o13, o18⟩ := ok.1
  refine Ct.ofJ (by decide +kernel) (Nat.le_of_ble_eq_true rfl) ?_
  refine J_L (L1 := [some (.ref (A 0)), some (.int (iI b)), some (.int (iI a))]) rfl ?_
  refine J_iload_n (pc1 := 1) rfl (i := 1) rfl dX9_round_0 rfl ?_
  refine J_iconst (pc1 := 2) dX9_round_1 rfl ?_
  refine J_bipush (pc1 := 4) (by decide) dX9_round_2 rfl ?_
  refine J_callSI (pc1 := 7) (As := [.int (iI b), .int (iI 0), .int (iI 14)]) gs_X9_87 yv_X9_isBetween (c_X9_isBetween (v := b) (a := 0) (b := 14) (by omega) (by omega) (by omega)) dX9_round_4 rfl rfl rfl (by omega) (by decide) (by omega) (by omega) (Nat.le_of_ble_eq_true rfl) ?_
  refine J_if_eq (pc1 := 10) (tgt := 20) (bC_lo _) (bC_hi _) dX9_round_7 rfl rfl (fun hc1 => ?_) (fun hc1 => ?_)
  · refine J_sipush (pc1 := 23) (by decide) dX9_round_20 rfl ?_
    exact J_iret rfl rfl dX9_round_23 (by omega) (by omega) (KOR_0 (fun z => by first | exact bC_0 (by assumption) z.1.1 | exact bC_0 (by assumption) z.1.2) (by rw [if_neg (fun z => by first | exact bC_0 (by assumption) z.1 | exact bC_0 (by assumption) z.2)]))
  · refine J_iload_n (pc1 := 11) rfl (i := 2) rfl dX9_round_10 rfl ?_
    refine J_iconst (pc1 := 12) dX9_round_11 rfl ?_
    refine J_bipush (pc1 := 14) (by decide) dX9_round_12 rfl ?_
    refine J_callSI (pc1 := 17) (As := [.int (iI a), .int (iI 0), .int (iI 14)]) gs_X9_87 yv_X9_isBetween (c_X9_isBetween (v := a) (a := 0) (b := 14) (by omega) (by omega) (by omega)) dX9_round_14 rfl rfl rfl (by omega) (by decide) (by omega) (by omega) (Nat.le_of_ble_eq_true rfl) ?_
    refine J_if_ne (pc1 := 20) (tgt := 24) (bC_lo _) (bC_hi _) dX9_round_17 rfl rfl (fun hc2 => ?_) (fun hc2 => ?_)
    · have hb14 : 0 ≤ b ∧ b ≤ 14 := bC_1 (by assumption)
      have ha14 : 0 ≤ a ∧ a ≤ 14 := bC_1 (by assumption)
      refine J_aload_n (pc1 := 25) rfl (i := 0) rfl dX9_round_24 rfl ?_
      refine J_get (pc1 := 28) (j := 0) inUX9 (ci := 9) rfl (by decide) lf_X9_12 dX9_round_25 rfl W.1 rfl ?_
      refine J_iload_n (pc1 := 29) rfl (i := 1) rfl dX9_round_28 rfl ?_
      refine J_iload_n (pc1 := 30) rfl (i := 2) rfl dX9_round_29 rfl ?_
      refine J_callVI (pc1 := 33) (As := [.int (iI b), .int (iI a)]) gv_X9_107 yv_X2_allows rfl (c_X2_allows hg ok.1 (b := b) (a := a) (by omega) (by omega)) dX9_round_30 rfl hg.1 rfl rfl (by omega) (by decide) (by omega) (by omega) (Nat.le_of_ble_eq_true rfl) ?_
      refine J_if_ne (pc1 := 36) (tgt := 40) (bZ_lo _) (bZ_hi _) dX9_round_33 rfl rfl (fun hc3 => ?_) (fun hc3 => ?_)
      · refine J_aload_n (pc1 := 41) rfl (i := 0) rfl dX9_round_40 rfl ?_
        refine J_get (pc1 := 44) (j := 1) inUX9 (ci := 9) rfl (by decide) lf_X9_19 dX9_round_41 rfl W.1 rfl ?_
        refine J_aload_n (pc1 := 45) rfl (i := 0) rfl dX9_round_44 rfl ?_
        refine J_get (pc1 := 48) (j := 0) inUX9 (ci := 9) rfl (by decide) lf_X9_12 dX9_round_45 rfl W.1 rfl ?_
        refine J_callVNs (pc1 := 51) (As := [.ref (G 0)]) gv_X9_77 yv_X3_keepState rfl (c_X3_keepState W.2.1 W.2.2.1) dX9_round_48 rfl W.2.1.1 rfl rfl (by omega) (by decide) (by omega) (by omega) (Nat.le_of_ble_eq_true rfl) (fun T1 hK1 => ?_)
        obtain ⟨hX1, fr1⟩ := XS_keep W e0 e1 e2 eH hK1
        obtain ⟨G1, Z1, O1, F1, mm1, tb1, W1, e01, e11, e21, eH1⟩ := id hX1
        have hg1 : IsG T1 (G1 0) (Z1 0) (O1 0) f := e01 ▸ W1.2.2.1.1 0 (by omega)
        refine J_aload_n (pc1 := 52) rfl (i := 0) rfl dX9_round_51 rfl ?_
        refine J_get (pc1 := 55) (j := 0) inUX9 (ci := 9) rfl (by decide) lf_X9_12 dX9_round_52 rfl W1.1 rfl ?_
        refine J_iload_n (pc1 := 56) rfl (i := 1) rfl dX9_round_55 rfl ?_
        refine J_iload_n (pc1 := 57) rfl (i := 2) rfl dX9_round_56 rfl ?_
        refine J_callVIs (pc1 := 60) (As := [.int (iI b), .int (iI a)]) gv_X9_111 yv_X2_playRound rfl (c_X2_playRound hg1 ok.1 (b := b) (a := a) (by omega) (by omega)) dX9_round_57 rfl hg1.1 rfl rfl (by omega) (by decide) (by omega) (by omega) (Nat.le_of_ble_eq_true rfl) (fun T2 hU2 => ?_)
        obtain ⟨hX2, fr2⟩ := XS_ug W1 e11 e21 eH1 hU2
        obtain ⟨G2, Z2, O2, F2, mm2, tb2, W2, e02, e12, e22, eH2⟩ := id hX2
        have hg2 : IsG T2 (G2 0) (Z2 0) (O2 0) (plF f b a) := e02 ▸ W2.2.2.1.1 0 (by omega)
        exact J_iret rfl rfl dX9_round_60 (by omega) (by omega) (KOR_1 ⟨⟨hb14, ha14⟩, bZ_1 (P := winF f = -1006 ∧ b ≤ moF f (f 5) ∧ a ≤ moF f (1 - f 5)) (by assumption)⟩ rfl ⟨hX2, (frX.tr fr1 fr2)⟩)
      · refine J_sipush (pc1 := 39) (by decide) dX9_round_36 rfl ?_
        exact J_iret rfl rfl dX9_round_39 (by omega) (by omega) (KOR_0 (fun z => bZ_0 (P := winF f = -1006 ∧ b ≤ moF f (f 5) ∧ a ≤ moF f (1 - f 5)) (by assumption) z.2) (by rw [if_pos ⟨hb14, ha14⟩]))
    · refine J_sipush (pc1 := 23) (by decide) dX9_round_20 rfl ?_
      exact J_iret rfl rfl dX9_round_23 (by omega) (by omega) (KOR_0 (fun z => by first | exact bC_0 (by assumption) z.1.1 | exact bC_0 (by assumption) z.1.2) (by rw [if_neg (fun z => by first | exact bC_0 (by assumption) z.1 | exact bC_0 (by assumption) z.2)]))
set_option maxHeartbeats 1000000 in
set_option maxRecDepth 20000 in
theorem c_X9_undo {X : Nat → Prop} {S : pS} {A : Nat → Nat} {f f1 f2 : Int → Int} {b0 b1 : Int} {n : Nat} {H : Nat → Int → Int} {tx : Int → Int} {L : Nat} (hX : XS X S A f f1 f2 b0 b1 n H tx L) (ok : okX f f1 f2 b0 b1 n H)  : Ct yX9_undo cX9_undo 1 (Option.some FieldType.int) 3 0 0 [.ref (A 0)] S (KOR (0 < n) (-1005) ((n : Int) - 1) S (fun T => XS X T A (H (n - 1)) f1 f2 b0 b1 (n - 1) H tx L ∧ frX S T (A 6))) := by
  obtain ⟨G, Z, O, F, mm, tb, W, e0, e1, e2, eH⟩ := id hX
  have hg : IsG S (G 0) (Z 0) (O 0) f := e0 ▸ W.2.2.1.1 0 (by omega)
  have hn6 := W.2.1.2.2
  refine Ct.ofJ (by decide +kernel) (Nat.le_of_ble_eq_true rfl) ?_
  refine J_L (L1 := [some (.ref (A 0))]) rfl ?_
  refine J_aload_n (pc1 := 1) rfl (i := 0) rfl dX9_undo_0 rfl ?_
  refine J_get (pc1 := 4) (j := 1) inUX9 (ci := 9) rfl (by decide) lf_X9_19 dX9_undo_1 rfl W.1 rfl ?_
  refine J_get (pc1 := 7) (j := 1) inUX3 (ci := 3) rfl (by decide) lf_X9_181 dX9_undo_4 rfl W.2.1.1 rfl ?_
  refine J_if_ne (pc1 := 10) (tgt := 14) (by omega) (by omega) dX9_undo_7 rfl rfl (fun hc1 => ?_) (fun hc1 => ?_)
  · have hn0 : 0 < n := by omega
    refine J_aload_n (pc1 := 15) rfl (i := 0) rfl dX9_undo_14 rfl ?_
    refine J_get (pc1 := 18) (j := 1) inUX9 (ci := 9) rfl (by decide) lf_X9_19 dX9_undo_15 rfl W.1 rfl ?_
    refine J_aload_n (pc1 := 19) rfl (i := 0) rfl dX9_undo_18 rfl ?_
    refine J_get (pc1 := 22) (j := 0) inUX9 (ci := 9) rfl (by decide) lf_X9_12 dX9_undo_19 rfl W.1 rfl ?_
    refine J_callVNs (pc1 := 25) (As := [.ref (G 0)]) gv_X9_201 yv_X3_takeBack rfl (c_X3_takeBack W.2.1 W.2.2.1 hn0) dX9_undo_22 rfl W.2.1.1 rfl rfl (by omega) (by decide) (by omega) (by omega) (Nat.le_of_ble_eq_true rfl) (fun T1 hB => ?_)
    obtain ⟨hX1, fr1⟩ := XS_tb W e0 e1 e2 eH hn0 hB
    obtain ⟨G1, Z1, O1, F1, mm1, tb1, W1, e01, e11, e21, eH1⟩ := id hX1
    have hg1 : IsG T1 (G1 0) (Z1 0) (O1 0) (H (n - 1)) := e01 ▸ W1.2.2.1.1 0 (by omega)
    refine J_aload_n (pc1 := 26) rfl (i := 0) rfl dX9_undo_25 rfl ?_
    refine J_get (pc1 := 29) (j := 1) inUX9 (ci := 9) rfl (by decide) lf_X9_19 dX9_undo_26 rfl W1.1 rfl ?_
    refine J_get (pc1 := 32) (j := 1) inUX3 (ci := 3) rfl (by decide) lf_X9_181 dX9_undo_29 rfl W1.2.1.1 rfl ?_
    exact J_iret rfl rfl dX9_undo_32 (by omega) (by omega) (KOR_1 hn0 (by omega) ⟨hX1, fr1⟩)
  · refine J_sipush (pc1 := 13) (by decide) dX9_undo_10 rfl ?_
    exact J_iret rfl rfl dX9_undo_13 (by omega) (by omega) (KOR_0 (fun z => by omega) rfl)
set_option maxHeartbeats 1000000 in
set_option maxRecDepth 20000 in
theorem c_X9_save0 {X : Nat → Prop} {S : pS} {A : Nat → Nat} {f f1 f2 : Int → Int} {b0 b1 : Int} {n : Nat} {H : Nat → Int → Int} {tx : Int → Int} {L : Nat} (hX : XS X S A f f1 f2 b0 b1 n H tx L) (ok : okX f f1 f2 b0 b1 n H)  : Ct yX9_save cX9_save 3 (Option.some FieldType.int) 3 0 0 [.ref (A 0), .int (iI 0)] S (kIS (f 6) (fun T => XS X T A f (if 1 = 1 then f else f1) (if 1 = 2 then f else f2) (if 1 = 1 then 1 else b0) (if 1 = 2 then 1 else b1) n H tx L ∧ frX S T (A 6))) := by
  obtain ⟨G, Z, O, F, mm, tb, W, e0, e1, e2, eH⟩ := id hX
  have hg : IsG S (G 0) (Z 0) (O 0) f := e0 ▸ W.2.2.1.1 0 (by omega)
  refine Ct.ofJ (by decide +kernel) (Nat.le_of_ble_eq_true rfl) ?_
  refine J_L (L1 := [some (.ref (A 0)), some (.int (iI 0)), none]) rfl ?_
  refine J_iload_n (pc1 := 1) rfl (i := 1) rfl dX9_save_0 rfl ?_
  refine J_callSI (pc1 := 4) (As := [.int (iI 0)]) gs_X9_204 yv_X9_isSlot (c_X9_isSlot (v := 0) (by decide)) dX9_save_1 rfl rfl rfl (by omega) (by decide) (by omega) (by omega) (Nat.le_of_ble_eq_true rfl) ?_
  refine J_if_ne (pc1 := 7) (tgt := 11) (bC_lo _) (bC_hi _) dX9_save_4 rfl rfl (fun hc1 => ?_) (fun hc1 => ?_)
  · refine J_aload_n (pc1 := 12) rfl (i := 0) rfl dX9_save_11 rfl ?_
    refine J_iload_n (pc1 := 13) rfl (i := 1) rfl dX9_save_12 rfl ?_
    refine J_callVF (pc1 := 16) (As := [.int (iI 0)]) gv_X9_207 yv_X9_slotOf rfl (c_X9_slotOf0 hX ok) dX9_save_13 rfl W.1 rfl rfl (by omega) (by decide) (by omega) (by omega) (Nat.le_of_ble_eq_true rfl) ?_
    refine J_astore_n (pc1 := 17) (L1 := [some (.ref (A 0)), some (.int (iI 0)), some (.ref (A 3))]) rfl (i := 2) dX9_save_16 rfl (by decide) rfl rfl ?_
    refine J_aload_n (pc1 := 18) rfl (i := 2) rfl dX9_save_17 rfl ?_
    refine J_get (pc1 := 21) (j := 0) inUX7 (ci := 7) rfl (by decide) lf_X9_211 dX9_save_18 rfl W.2.2.2.1 rfl ?_
    refine J_aload_n (pc1 := 22) rfl (i := 0) rfl dX9_save_21 rfl ?_
    refine J_get (pc1 := 25) (j := 0) inUX9 (ci := 9) rfl (by decide) lf_X9_12 dX9_save_22 rfl W.1 rfl ?_
    refine J_callVNs (pc1 := 28) (As := [.ref (G 0)]) gv_X9_214 yv_X2_copyFrom rfl (cpG W.2.2.1 (i := 1) (j := 0) (by omega) (by omega) (by decide)) dX9_save_25 rfl (W.2.2.1.1 1 (by omega)).1 rfl rfl (by omega) (by decide) (by omega) (by omega) (Nat.le_of_ble_eq_true rfl) (fun T1 hU => ?_)
    rw [e0] at hU
    obtain ⟨hX1, fr1⟩ := XS_sv W e0 e1 e2 eH (i := 1) (a9 := (A 3)) (by omega) (by omega) hU
    have kt := (hU.2 _ (ne_ci W.2.2.2.1 (W.2.2.1.1 1 (by omega)).1 (by decide)) (ne_ci W.2.2.2.1 (W.2.2.1.1 1 (by omega)).2.1 (by decide)) (ne_ci W.2.2.2.1 (W.2.2.1.1 1 (by omega)).2.2.1 (by decide))).trans W.2.2.2.1
    refine J_aload_n (pc1 := 29) rfl (i := 2) rfl dX9_save_28 rfl ?_
    refine J_iconst (pc1 := 30) dX9_save_29 rfl ?_
    refine J_put (pc1 := 33) (ty := .boolean) (j := 1) (fs1 := [.ref (G 1), .int (iI 1)]) inUX7 (ci := 7) rfl (by decide) tyX7 tyX7_ok nmX7 rfl (by decide +kernel) lf_X9_217 dX9_save_30 rfl kt rfl (by rfl) (Nat.le_of_ble_eq_true rfl) rfl ?_
    generalize hT2 : pu T1 (A 3) (oO 7 [.ref (G 1), .int (iI 1)]) = T2 at hX1 fr1 ⊢
    obtain ⟨G1, Z1, O1, F1, mm1, tb1, W1, e01, e11, e21, eH1⟩ := id hX1
    have hg1 : IsG T2 (G1 0) (Z1 0) (O1 0) f := e01 ▸ W1.2.2.1.1 0 (by omega)
    refine J_aload_n (pc1 := 34) rfl (i := 0) rfl dX9_save_33 rfl ?_
    refine J_get (pc1 := 37) (j := 0) inUX9 (ci := 9) rfl (by decide) lf_X9_12 dX9_save_34 rfl W1.1 rfl ?_
    refine J_get (pc1 := 40) (j := 6) inUX2 (ci := 2) rfl (by decide) lf_X9_91 dX9_save_37 rfl hg1.1 rfl ?_
    exact J_iret rfl rfl dX9_save_40 (by omega) (by omega) (kIS_mk rfl ⟨hX1, fr1⟩)
  · exact absurd (by decide) (bC_0 hc1)
set_option maxHeartbeats 1000000 in
set_option maxRecDepth 20000 in
theorem c_X9_save1 {X : Nat → Prop} {S : pS} {A : Nat → Nat} {f f1 f2 : Int → Int} {b0 b1 : Int} {n : Nat} {H : Nat → Int → Int} {tx : Int → Int} {L : Nat} (hX : XS X S A f f1 f2 b0 b1 n H tx L) (ok : okX f f1 f2 b0 b1 n H)  : Ct yX9_save cX9_save 3 (Option.some FieldType.int) 3 0 0 [.ref (A 0), .int (iI 1)] S (kIS (f 6) (fun T => XS X T A f (if 2 = 1 then f else f1) (if 2 = 2 then f else f2) (if 2 = 1 then 1 else b0) (if 2 = 2 then 1 else b1) n H tx L ∧ frX S T (A 6))) := by
  obtain ⟨G, Z, O, F, mm, tb, W, e0, e1, e2, eH⟩ := id hX
  have hg : IsG S (G 0) (Z 0) (O 0) f := e0 ▸ W.2.2.1.1 0 (by omega)
  refine Ct.ofJ (by decide +kernel) (Nat.le_of_ble_eq_true rfl) ?_
  refine J_L (L1 := [some (.ref (A 0)), some (.int (iI 1)), none]) rfl ?_
  refine J_iload_n (pc1 := 1) rfl (i := 1) rfl dX9_save_0 rfl ?_
  refine J_callSI (pc1 := 4) (As := [.int (iI 1)]) gs_X9_204 yv_X9_isSlot (c_X9_isSlot (v := 1) (by decide)) dX9_save_1 rfl rfl rfl (by omega) (by decide) (by omega) (by omega) (Nat.le_of_ble_eq_true rfl) ?_
  refine J_if_ne (pc1 := 7) (tgt := 11) (bC_lo _) (bC_hi _) dX9_save_4 rfl rfl (fun hc1 => ?_) (fun hc1 => ?_)
  · refine J_aload_n (pc1 := 12) rfl (i := 0) rfl dX9_save_11 rfl ?_
    refine J_iload_n (pc1 := 13) rfl (i := 1) rfl dX9_save_12 rfl ?_
    refine J_callVF (pc1 := 16) (As := [.int (iI 1)]) gv_X9_207 yv_X9_slotOf rfl (c_X9_slotOf1 hX ok) dX9_save_13 rfl W.1 rfl rfl (by omega) (by decide) (by omega) (by omega) (Nat.le_of_ble_eq_true rfl) ?_
    refine J_astore_n (pc1 := 17) (L1 := [some (.ref (A 0)), some (.int (iI 1)), some (.ref (A 4))]) rfl (i := 2) dX9_save_16 rfl (by decide) rfl rfl ?_
    refine J_aload_n (pc1 := 18) rfl (i := 2) rfl dX9_save_17 rfl ?_
    refine J_get (pc1 := 21) (j := 0) inUX7 (ci := 7) rfl (by decide) lf_X9_211 dX9_save_18 rfl W.2.2.2.2.1 rfl ?_
    refine J_aload_n (pc1 := 22) rfl (i := 0) rfl dX9_save_21 rfl ?_
    refine J_get (pc1 := 25) (j := 0) inUX9 (ci := 9) rfl (by decide) lf_X9_12 dX9_save_22 rfl W.1 rfl ?_
    refine J_callVNs (pc1 := 28) (As := [.ref (G 0)]) gv_X9_214 yv_X2_copyFrom rfl (cpG W.2.2.1 (i := 2) (j := 0) (by omega) (by omega) (by decide)) dX9_save_25 rfl (W.2.2.1.1 2 (by omega)).1 rfl rfl (by omega) (by decide) (by omega) (by omega) (Nat.le_of_ble_eq_true rfl) (fun T1 hU => ?_)
    rw [e0] at hU
    obtain ⟨hX1, fr1⟩ := XS_sv W e0 e1 e2 eH (i := 2) (a9 := (A 4)) (by omega) (by omega) hU
    have kt := (hU.2 _ (ne_ci W.2.2.2.2.1 (W.2.2.1.1 2 (by omega)).1 (by decide)) (ne_ci W.2.2.2.2.1 (W.2.2.1.1 2 (by omega)).2.1 (by decide)) (ne_ci W.2.2.2.2.1 (W.2.2.1.1 2 (by omega)).2.2.1 (by decide))).trans W.2.2.2.2.1
    refine J_aload_n (pc1 := 29) rfl (i := 2) rfl dX9_save_28 rfl ?_
    refine J_iconst (pc1 := 30) dX9_save_29 rfl ?_
    refine J_put (pc1 := 33) (ty := .boolean) (j := 1) (fs1 := [.ref (G 2), .int (iI 1)]) inUX7 (ci := 7) rfl (by decide) tyX7 tyX7_ok nmX7 rfl (by decide +kernel) lf_X9_217 dX9_save_30 rfl kt rfl (by rfl) (Nat.le_of_ble_eq_true rfl) rfl ?_
    generalize hT2 : pu T1 (A 4) (oO 7 [.ref (G 2), .int (iI 1)]) = T2 at hX1 fr1 ⊢
    obtain ⟨G1, Z1, O1, F1, mm1, tb1, W1, e01, e11, e21, eH1⟩ := id hX1
    have hg1 : IsG T2 (G1 0) (Z1 0) (O1 0) f := e01 ▸ W1.2.2.1.1 0 (by omega)
    refine J_aload_n (pc1 := 34) rfl (i := 0) rfl dX9_save_33 rfl ?_
    refine J_get (pc1 := 37) (j := 0) inUX9 (ci := 9) rfl (by decide) lf_X9_12 dX9_save_34 rfl W1.1 rfl ?_
    refine J_get (pc1 := 40) (j := 6) inUX2 (ci := 2) rfl (by decide) lf_X9_91 dX9_save_37 rfl hg1.1 rfl ?_
    exact J_iret rfl rfl dX9_save_40 (by omega) (by omega) (kIS_mk rfl ⟨hX1, fr1⟩)
  · exact absurd (by decide) (bC_0 hc1)
set_option maxHeartbeats 1000000 in
set_option maxRecDepth 20000 in
theorem c_X9_saveN {X : Nat → Prop} {S : pS} {A : Nat → Nat} {f f1 f2 : Int → Int} {b0 b1 : Int} {n : Nat} {H : Nat → Int → Int} {tx : Int → Int} {L : Nat} (hX : XS X S A f f1 f2 b0 b1 n H tx L) (ok : okX f f1 f2 b0 b1 n H) {s : Int} (hs : -2147483648 ≤ s ∧ s < 2147483648) (hs9 : ¬ (s = 0 ∨ s = 1)) : Ct yX9_save cX9_save 3 (Option.some FieldType.int) 3 0 0 [.ref (A 0), .int (iI s)] S (kI (-1002) S) := by
  obtain ⟨G, Z, O, F, mm, tb, W, e0, e1, e2, eH⟩ := id hX
  have hg : IsG S (G 0) (Z 0) (O 0) f := e0 ▸ W.2.2.1.1 0 (by omega)
  refine Ct.ofJ (by decide +kernel) (Nat.le_of_ble_eq_true rfl) ?_
  refine J_L (L1 := [some (.ref (A 0)), some (.int (iI s)), none]) rfl ?_
  refine J_iload_n (pc1 := 1) rfl (i := 1) rfl dX9_save_0 rfl ?_
  refine J_callSI (pc1 := 4) (As := [.int (iI s)]) gs_X9_204 yv_X9_isSlot (c_X9_isSlot (v := s) (by omega)) dX9_save_1 rfl rfl rfl (by omega) (by decide) (by omega) (by omega) (Nat.le_of_ble_eq_true rfl) ?_
  refine J_if_ne (pc1 := 7) (tgt := 11) (bC_lo _) (bC_hi _) dX9_save_4 rfl rfl (fun hc1 => ?_) (fun hc1 => ?_)
  · exact absurd (bC_1 hc1) hs9
  · refine J_sipush (pc1 := 10) (by decide) dX9_save_7 rfl ?_
    exact J_iret rfl rfl dX9_save_10 (by omega) (by omega) (kI_mk rfl)
set_option maxHeartbeats 1000000 in
set_option maxRecDepth 20000 in
theorem c_X9_restore0 {X : Nat → Prop} {S : pS} {A : Nat → Nat} {f f1 f2 : Int → Int} {b0 b1 : Int} {n : Nat} {H : Nat → Int → Int} {tx : Int → Int} {L : Nat} (hX : XS X S A f f1 f2 b0 b1 n H tx L) (ok : okX f f1 f2 b0 b1 n H)  : Ct yX9_restore cX9_restore 3 (Option.some FieldType.int) 4 3 20 [.ref (A 0), .int (iI 0)] S (KOR (b0 = 1) (-1005) (f1 6) S (fun T => XS X T A f1 f1 f2 b0 b1 (kpN n) (kpH n f H) tx L ∧ frX S T (A 6))) := by
  obtain ⟨G, Z, O, F, mm, tb, W, e0, e1, e2, eH⟩ := id hX
  have hg : IsG S (G 0) (Z 0) (O 0) f := e0 ▸ W.2.2.1.1 0 (by omega)
  have okb := ok.2.1
  have okb2 := ok.2.2.1
  refine Ct.ofJ (by decide +kernel) (Nat.le_of_ble_eq_true rfl) ?_
  refine J_L (L1 := [some (.ref (A 0)), some (.int (iI 0)), none]) rfl ?_
  refine J_iload_n (pc1 := 1) rfl (i := 1) rfl dX9_restore_0 rfl ?_
  refine J_callSI (pc1 := 4) (As := [.int (iI 0)]) gs_X9_204 yv_X9_isSlot (c_X9_isSlot (v := 0) (by decide)) dX9_restore_1 rfl rfl rfl (by omega) (by decide) (by omega) (by omega) (Nat.le_of_ble_eq_true rfl) ?_
  refine J_if_ne (pc1 := 7) (tgt := 11) (bC_lo _) (bC_hi _) dX9_restore_4 rfl rfl (fun hc1 => ?_) (fun hc1 => ?_)
  · refine J_aload_n (pc1 := 12) rfl (i := 0) rfl dX9_restore_11 rfl ?_
    refine J_iload_n (pc1 := 13) rfl (i := 1) rfl dX9_restore_12 rfl ?_
    refine J_callVF (pc1 := 16) (As := [.int (iI 0)]) gv_X9_207 yv_X9_slotOf rfl (c_X9_slotOf0 hX ok) dX9_restore_13 rfl W.1 rfl rfl (by omega) (by decide) (by omega) (by omega) (Nat.le_of_ble_eq_true rfl) ?_
    refine J_astore_n (pc1 := 17) (L1 := [some (.ref (A 0)), some (.int (iI 0)), some (.ref (A 3))]) rfl (i := 2) dX9_restore_16 rfl (by decide) rfl rfl ?_
    refine J_aload_n (pc1 := 18) rfl (i := 2) rfl dX9_restore_17 rfl ?_
    refine J_get (pc1 := 21) (j := 1) inUX7 (ci := 7) rfl (by decide) lf_X9_217 dX9_restore_18 rfl W.2.2.2.1 rfl ?_
    refine J_if_ne (pc1 := 24) (tgt := 28) (by omega) (by omega) dX9_restore_21 rfl rfl (fun hc2 => ?_) (fun hc2 => ?_)
    · refine J_aload_n (pc1 := 29) rfl (i := 0) rfl dX9_restore_28 rfl ?_
      refine J_get (pc1 := 32) (j := 1) inUX9 (ci := 9) rfl (by decide) lf_X9_19 dX9_restore_29 rfl W.1 rfl ?_
      refine J_aload_n (pc1 := 33) rfl (i := 0) rfl dX9_restore_32 rfl ?_
      refine J_get (pc1 := 36) (j := 0) inUX9 (ci := 9) rfl (by decide) lf_X9_12 dX9_restore_33 rfl W.1 rfl ?_
      refine J_callVNs (pc1 := 39) (As := [.ref (G 0)]) gv_X9_77 yv_X3_keepState rfl (c_X3_keepState W.2.1 W.2.2.1) dX9_restore_36 rfl W.2.1.1 rfl rfl (by omega) (by decide) (by omega) (by omega) (Nat.le_of_ble_eq_true rfl) (fun T1 hK1 => ?_)
      obtain ⟨hX1, fr1⟩ := XS_keep W e0 e1 e2 eH hK1
      obtain ⟨G1, Z1, O1, F1, mm1, tb1, W1, e01, e11, e21, eH1⟩ := id hX1
      have hg1 : IsG T1 (G1 0) (Z1 0) (O1 0) f := e01 ▸ W1.2.2.1.1 0 (by omega)
      refine J_aload_n (pc1 := 40) rfl (i := 0) rfl dX9_restore_39 rfl ?_
      refine J_get (pc1 := 43) (j := 0) inUX9 (ci := 9) rfl (by decide) lf_X9_12 dX9_restore_40 rfl W1.1 rfl ?_
      refine J_aload_n (pc1 := 44) rfl (i := 2) rfl dX9_restore_43 rfl ?_
      refine J_get (pc1 := 47) (j := 0) inUX7 (ci := 7) rfl (by decide) lf_X9_211 dX9_restore_44 rfl W1.2.2.2.1 rfl ?_
      refine J_callVNs (pc1 := 50) (As := [.ref (G1 1)]) gv_X9_214 yv_X2_copyFrom rfl (cpG W1.2.2.1 (i := 0) (j := 1) (by omega) (by omega) (by decide)) dX9_restore_47 rfl hg1.1 rfl rfl (by omega) (by decide) (by omega) (by omega) (Nat.le_of_ble_eq_true rfl) (fun T2 hU2 => ?_)
      rw [e11] at hU2
      obtain ⟨hX2, fr2⟩ := XS_ug W1 e11 e21 eH1 hU2
      obtain ⟨G2, Z2, O2, F2, mm2, tb2, W2, e02, e12, e22, eH2⟩ := id hX2
      have hg2 : IsG T2 (G2 0) (Z2 0) (O2 0) f1 := e02 ▸ W2.2.2.1.1 0 (by omega)
      refine J_aload_n (pc1 := 51) rfl (i := 0) rfl dX9_restore_50 rfl ?_
      refine J_get (pc1 := 54) (j := 0) inUX9 (ci := 9) rfl (by decide) lf_X9_12 dX9_restore_51 rfl W2.1 rfl ?_
      refine J_get (pc1 := 57) (j := 6) inUX2 (ci := 2) rfl (by decide) lf_X9_91 dX9_restore_54 rfl hg2.1 rfl ?_
      exact J_iret rfl rfl dX9_restore_57 (by omega) (by omega) (KOR_1 (by omega) rfl ⟨hX2, frX.tr fr1 fr2⟩)
    · refine J_sipush (pc1 := 27) (by decide) dX9_restore_24 rfl ?_
      exact J_iret rfl rfl dX9_restore_27 (by omega) (by omega) (KOR_0 (fun z => by omega) rfl)
  · exact absurd (by decide) (bC_0 hc1)
set_option maxHeartbeats 1000000 in
set_option maxRecDepth 20000 in
theorem c_X9_restore1 {X : Nat → Prop} {S : pS} {A : Nat → Nat} {f f1 f2 : Int → Int} {b0 b1 : Int} {n : Nat} {H : Nat → Int → Int} {tx : Int → Int} {L : Nat} (hX : XS X S A f f1 f2 b0 b1 n H tx L) (ok : okX f f1 f2 b0 b1 n H)  : Ct yX9_restore cX9_restore 3 (Option.some FieldType.int) 4 3 20 [.ref (A 0), .int (iI 1)] S (KOR (b1 = 1) (-1005) (f2 6) S (fun T => XS X T A f2 f1 f2 b0 b1 (kpN n) (kpH n f H) tx L ∧ frX S T (A 6))) := by
  obtain ⟨G, Z, O, F, mm, tb, W, e0, e1, e2, eH⟩ := id hX
  have hg : IsG S (G 0) (Z 0) (O 0) f := e0 ▸ W.2.2.1.1 0 (by omega)
  have okb := ok.2.1
  have okb2 := ok.2.2.1
  refine Ct.ofJ (by decide +kernel) (Nat.le_of_ble_eq_true rfl) ?_
  refine J_L (L1 := [some (.ref (A 0)), some (.int (iI 1)), none]) rfl ?_
  refine J_iload_n (pc1 := 1) rfl (i := 1) rfl dX9_restore_0 rfl ?_
  refine J_callSI (pc1 := 4) (As := [.int (iI 1)]) gs_X9_204 yv_X9_isSlot (c_X9_isSlot (v := 1) (by decide)) dX9_restore_1 rfl rfl rfl (by omega) (by decide) (by omega) (by omega) (Nat.le_of_ble_eq_true rfl) ?_
  refine J_if_ne (pc1 := 7) (tgt := 11) (bC_lo _) (bC_hi _) dX9_restore_4 rfl rfl (fun hc1 => ?_) (fun hc1 => ?_)
  · refine J_aload_n (pc1 := 12) rfl (i := 0) rfl dX9_restore_11 rfl ?_
    refine J_iload_n (pc1 := 13) rfl (i := 1) rfl dX9_restore_12 rfl ?_
    refine J_callVF (pc1 := 16) (As := [.int (iI 1)]) gv_X9_207 yv_X9_slotOf rfl (c_X9_slotOf1 hX ok) dX9_restore_13 rfl W.1 rfl rfl (by omega) (by decide) (by omega) (by omega) (Nat.le_of_ble_eq_true rfl) ?_
    refine J_astore_n (pc1 := 17) (L1 := [some (.ref (A 0)), some (.int (iI 1)), some (.ref (A 4))]) rfl (i := 2) dX9_restore_16 rfl (by decide) rfl rfl ?_
    refine J_aload_n (pc1 := 18) rfl (i := 2) rfl dX9_restore_17 rfl ?_
    refine J_get (pc1 := 21) (j := 1) inUX7 (ci := 7) rfl (by decide) lf_X9_217 dX9_restore_18 rfl W.2.2.2.2.1 rfl ?_
    refine J_if_ne (pc1 := 24) (tgt := 28) (by omega) (by omega) dX9_restore_21 rfl rfl (fun hc2 => ?_) (fun hc2 => ?_)
    · refine J_aload_n (pc1 := 29) rfl (i := 0) rfl dX9_restore_28 rfl ?_
      refine J_get (pc1 := 32) (j := 1) inUX9 (ci := 9) rfl (by decide) lf_X9_19 dX9_restore_29 rfl W.1 rfl ?_
      refine J_aload_n (pc1 := 33) rfl (i := 0) rfl dX9_restore_32 rfl ?_
      refine J_get (pc1 := 36) (j := 0) inUX9 (ci := 9) rfl (by decide) lf_X9_12 dX9_restore_33 rfl W.1 rfl ?_
      refine J_callVNs (pc1 := 39) (As := [.ref (G 0)]) gv_X9_77 yv_X3_keepState rfl (c_X3_keepState W.2.1 W.2.2.1) dX9_restore_36 rfl W.2.1.1 rfl rfl (by omega) (by decide) (by omega) (by omega) (Nat.le_of_ble_eq_true rfl) (fun T1 hK1 => ?_)
      obtain ⟨hX1, fr1⟩ := XS_keep W e0 e1 e2 eH hK1
      obtain ⟨G1, Z1, O1, F1, mm1, tb1, W1, e01, e11, e21, eH1⟩ := id hX1
      have hg1 : IsG T1 (G1 0) (Z1 0) (O1 0) f := e01 ▸ W1.2.2.1.1 0 (by omega)
      refine J_aload_n (pc1 := 40) rfl (i := 0) rfl dX9_restore_39 rfl ?_
      refine J_get (pc1 := 43) (j := 0) inUX9 (ci := 9) rfl (by decide) lf_X9_12 dX9_restore_40 rfl W1.1 rfl ?_
      refine J_aload_n (pc1 := 44) rfl (i := 2) rfl dX9_restore_43 rfl ?_
      refine J_get (pc1 := 47) (j := 0) inUX7 (ci := 7) rfl (by decide) lf_X9_211 dX9_restore_44 rfl W1.2.2.2.2.1 rfl ?_
      refine J_callVNs (pc1 := 50) (As := [.ref (G1 2)]) gv_X9_214 yv_X2_copyFrom rfl (cpG W1.2.2.1 (i := 0) (j := 2) (by omega) (by omega) (by decide)) dX9_restore_47 rfl hg1.1 rfl rfl (by omega) (by decide) (by omega) (by omega) (Nat.le_of_ble_eq_true rfl) (fun T2 hU2 => ?_)
      rw [e21] at hU2
      obtain ⟨hX2, fr2⟩ := XS_ug W1 e11 e21 eH1 hU2
      obtain ⟨G2, Z2, O2, F2, mm2, tb2, W2, e02, e12, e22, eH2⟩ := id hX2
      have hg2 : IsG T2 (G2 0) (Z2 0) (O2 0) f2 := e02 ▸ W2.2.2.1.1 0 (by omega)
      refine J_aload_n (pc1 := 51) rfl (i := 0) rfl dX9_restore_50 rfl ?_
      refine J_get (pc1 := 54) (j := 0) inUX9 (ci := 9) rfl (by decide) lf_X9_12 dX9_restore_51 rfl W2.1 rfl ?_
      refine J_get (pc1 := 57) (j := 6) inUX2 (ci := 2) rfl (by decide) lf_X9_91 dX9_restore_54 rfl hg2.1 rfl ?_
      exact J_iret rfl rfl dX9_restore_57 (by omega) (by omega) (KOR_1 (by omega) rfl ⟨hX2, frX.tr fr1 fr2⟩)
    · refine J_sipush (pc1 := 27) (by decide) dX9_restore_24 rfl ?_
      exact J_iret rfl rfl dX9_restore_27 (by omega) (by omega) (KOR_0 (fun z => by omega) rfl)
  · exact absurd (by decide) (bC_0 hc1)
set_option maxHeartbeats 1000000 in
set_option maxRecDepth 20000 in
theorem c_X9_restoreN {X : Nat → Prop} {S : pS} {A : Nat → Nat} {f f1 f2 : Int → Int} {b0 b1 : Int} {n : Nat} {H : Nat → Int → Int} {tx : Int → Int} {L : Nat} (hX : XS X S A f f1 f2 b0 b1 n H tx L) (ok : okX f f1 f2 b0 b1 n H) {s : Int} (hs : -2147483648 ≤ s ∧ s < 2147483648) (hs9 : ¬ (s = 0 ∨ s = 1)) : Ct yX9_restore cX9_restore 3 (Option.some FieldType.int) 4 0 0 [.ref (A 0), .int (iI s)] S (kI (-1002) S) := by
  obtain ⟨G, Z, O, F, mm, tb, W, e0, e1, e2, eH⟩ := id hX
  have hg : IsG S (G 0) (Z 0) (O 0) f := e0 ▸ W.2.2.1.1 0 (by omega)
  refine Ct.ofJ (by decide +kernel) (Nat.le_of_ble_eq_true rfl) ?_
  refine J_L (L1 := [some (.ref (A 0)), some (.int (iI s)), none]) rfl ?_
  refine J_iload_n (pc1 := 1) rfl (i := 1) rfl dX9_restore_0 rfl ?_
  refine J_callSI (pc1 := 4) (As := [.int (iI s)]) gs_X9_204 yv_X9_isSlot (c_X9_isSlot (v := s) (by omega)) dX9_restore_1 rfl rfl rfl (by omega) (by decide) (by omega) (by omega) (Nat.le_of_ble_eq_true rfl) ?_
  refine J_if_ne (pc1 := 7) (tgt := 11) (bC_lo _) (bC_hi _) dX9_restore_4 rfl rfl (fun hc1 => ?_) (fun hc1 => ?_)
  · exact absurd (bC_1 hc1) hs9
  · refine J_sipush (pc1 := 10) (by decide) dX9_restore_7 rfl ?_
    exact J_iret rfl rfl dX9_restore_10 (by omega) (by omega) (kI_mk rfl)
