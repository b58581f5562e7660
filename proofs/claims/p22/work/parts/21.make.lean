/-! 21.make: BorrowedHours.<init> -/
theorem base_none {S T : pS} {x q : Nat} {e : pE} (fr : ∀ a, S a ≠ none → a ≠ x → T a = S a) (hx : T x = some e) (hq : T q = none) : S q = none := by
  rcases Classical.em (S q = none) with h | h
  · exact h
  · by_cases e9 : q = x
    · rw [e9, hx] at hq; cases hq
    · rw [fr q h e9] at hq; exact hq
theorem okF_ze : okF zeF := by
  unfold okF zeF
  refine ⟨by decide, by decide, by decide, by decide, by decide, by decide, by decide, by decide, by decide, by decide, by decide, by decide⟩
theorem FAM3 {S : pS} {g0 g1 g2 z0 z1 z2 o0 o1 o2 : Nat} (h0 : IsG S g0 z0 o0 zeF) (h1 : IsG S g1 z1 o1 zeF) (h2 : IsG S g2 z2 o2 zeF) (a1 : g0 ≠ g1) (a2 : g0 ≠ g2) (a3 : g1 ≠ g2) (b1 : z0 ≠ z1) (b2 : z0 ≠ z2) (b3 : z1 ≠ z2) (c1 : o0 ≠ o1) (c2 : o0 ≠ o2) (c3 : o1 ≠ o2) (d1 : z0 ≠ o1) (d2 : z0 ≠ o2) (d3 : z1 ≠ o0) (d4 : z1 ≠ o2) (d5 : z2 ≠ o0) (d6 : z2 ≠ o1) :
    FAM S (3 + 0) (fun i => [g0, g1, g2].getD i 0) (fun i => [z0, z1, z2].getD i 0) (fun i => [o0, o1, o2].getD i 0) (fun _ => zeF) := by
  have c : ∀ i, i < 3 + 0 → i = 0 ∨ i = 1 ∨ i = 2 := fun i hi => by omega
  refine ⟨fun i hi => ?_, fun i j hi hj e => ?_, fun i j hi hj e => ?_, fun i j hi hj e => ?_, fun i j hi hj => ?_⟩
  · rcases c i hi with rfl | rfl | rfl
    · exact h0
    · exact h1
    · exact h2
  · rcases c i hi with rfl | rfl | rfl <;> rcases c j hj with rfl | rfl | rfl <;> first | rfl | exact absurd e a1 | exact absurd e a2 | exact absurd e a3 | exact absurd e.symm a1 | exact absurd e.symm a2 | exact absurd e.symm a3
  · rcases c i hi with rfl | rfl | rfl <;> rcases c j hj with rfl | rfl | rfl <;> first | rfl | exact absurd e b1 | exact absurd e b2 | exact absurd e b3 | exact absurd e.symm b1 | exact absurd e.symm b2 | exact absurd e.symm b3
  · rcases c i hi with rfl | rfl | rfl <;> rcases c j hj with rfl | rfl | rfl <;> first | rfl | exact absurd e c1 | exact absurd e c2 | exact absurd e c3 | exact absurd e.symm c1 | exact absurd e.symm c2 | exact absurd e.symm c3
  · rcases c i hi with rfl | rfl | rfl <;> rcases c j hj with rfl | rfl | rfl <;> first | exact h0.2.2.2 | exact h1.2.2.2 | exact h2.2.2.2 | exact d1 | exact d2 | exact d3 | exact d4 | exact d5 | exact d6
set_option maxHeartbeats 400000 in
set_option maxRecDepth 20000 in
theorem c_X0_init {S : pS} {v g : Nat} (hv : S v = some (oO 0 [.null])) : Ct yX0_init cX0_init 2 none 1 0 0 [.ref v, .ref g] S (kN (pu S v (oO 0 [.ref g]))) := by
  refine Ct.ofJ (by decide +kernel) (Nat.le_of_ble_eq_true rfl) ?_
  refine J_L (L1 := [some (.ref v), some (.ref g)]) rfl ?_
  refine J_aload_n (pc1 := 1) rfl (i := 0) rfl dX0_init_0 rfl ?_
  refine J_objInit (pc1 := 4) lm_X0_3 li_init_Object lc_init_Object dX0_init_1 rfl (by omega) (by decide) ?_
  refine J_aload_n (pc1 := 5) rfl (i := 0) rfl dX0_init_4 rfl ?_
  refine J_aload_n (pc1 := 6) rfl (i := 1) rfl dX0_init_5 rfl ?_
  refine J_putF (pc1 := 9) (ty := (.object "BorrowedHours$Game")) (j := 0) (fs1 := [.ref g]) inUX0 (ci := 0) rfl (by decide) tyX0 tyX0_ok nmX0 rfl rfl rfl (by decide +kernel) lf_X0_9 dX0_init_6 rfl hv rfl (by rfl) (Nat.le_of_ble_eq_true rfl) rfl ?_
  exact J_vret rfl dX0_init_9 (Nat.le_refl _) (Nat.le_refl _) (kN_mk rfl)
set_option maxHeartbeats 400000 in
set_option maxRecDepth 20000 in
theorem c_X1_init {S : pS} {v g : Nat} (hv : S v = some (oO 1 [.null])) : Ct yX1_init cX1_init 2 none 1 0 0 [.ref v, .ref g] S (kN (pu S v (oO 1 [.ref g]))) := by
  refine Ct.ofJ (by decide +kernel) (Nat.le_of_ble_eq_true rfl) ?_
  refine J_L (L1 := [some (.ref v), some (.ref g)]) rfl ?_
  refine J_aload_n (pc1 := 1) rfl (i := 0) rfl dX1_init_0 rfl ?_
  refine J_objInit (pc1 := 4) lm_X1_3 li_init_Object lc_init_Object dX1_init_1 rfl (by omega) (by decide) ?_
  refine J_aload_n (pc1 := 5) rfl (i := 0) rfl dX1_init_4 rfl ?_
  refine J_aload_n (pc1 := 6) rfl (i := 1) rfl dX1_init_5 rfl ?_
  refine J_putF (pc1 := 9) (ty := (.object "BorrowedHours$Game")) (j := 0) (fs1 := [.ref g]) inUX1 (ci := 1) rfl (by decide) tyX1 tyX1_ok nmX1 rfl rfl rfl (by decide +kernel) lf_X1_9 dX1_init_6 rfl hv rfl (by rfl) (Nat.le_of_ble_eq_true rfl) rfl ?_
  exact J_vret rfl dX1_init_9 (Nat.le_refl _) (Nat.le_refl _) (kN_mk rfl)
set_option maxHeartbeats 4000000 in
set_option maxRecDepth 20000 in
theorem c_X9_init {S : pS} {x : Nat} (hx : S x = some (oO 9 [.null, .null, .null, .null, .null, .null, .null, .null])) : Ct yX9_init cX9_init 1 none 4 24 350 [.ref x] S (kNS (fun T => ∃ A : Nat → Nat, A 0 = x ∧ (∀ X H, XS X T A zeF zeF zeF 0 0 0 H (fun _ => 0) 0) ∧ S (A 6) = none ∧ ∀ a, S a ≠ none → a ≠ x → T a = S a)) := by
  have fr0 : ∀ a, S a ≠ none → a ≠ x → S a = S a := fun _ _ _ => rfl
  refine Ct.ofJ (by decide +kernel) (Nat.le_of_ble_eq_true rfl) ?_
  refine J_L (L1 := [some (.ref x)]) rfl ?_
  refine J_aload_n (pc1 := 1) rfl (i := 0) rfl dX9_init_0 rfl ?_
  refine J_objInit (pc1 := 4) lm_X9_3 li_init_Object lc_init_Object dX9_init_1 rfl (by omega) (by decide) ?_
  refine J_aload_n (pc1 := 5) rfl (i := 0) rfl dX9_init_4 rfl ?_
  refine J_new (pc1 := 8) (fs := [.int (iI 0), .int (iI 0), .int (iI 0), .int (iI 0), .int (iI 0), .int (iI 0), .int (iI 0), .int (iI 0), .null, .null]) inUX2 (ci := 2) rfl tyX2 tyX2_ok ll_X9_9 lt_X2 ln_X2 df_X2 dX9_init_5 rfl (by omega) (by omega) (fun q1 n1 => ?_)
  have e_x_q1 : x ≠ q1 := ne_N hx n1
  have k1_x := (pu_ne S (oO 2 [.int (iI 0), .int (iI 0), .int (iI 0), .int (iI 0), .int (iI 0), .int (iI 0), .int (iI 0), .int (iI 0), .null, .null]) e_x_q1).trans hx
  have k1_q1 := pu_self S q1 (oO 2 [.int (iI 0), .int (iI 0), .int (iI 0), .int (iI 0), .int (iI 0), .int (iI 0), .int (iI 0), .int (iI 0), .null, .null])
  have bq1 := base_none fr0 hx n1
  have fr1 : ∀ a, S a ≠ none → a ≠ x → (pu S q1 (oO 2 [.int (iI 0), .int (iI 0), .int (iI 0), .int (iI 0), .int (iI 0), .int (iI 0), .int (iI 0), .int (iI 0), .null, .null])) a = S a := fun a a1 a2 => (pu_ne _ _ (fun z9 => a1 (by rw [z9]; exact bq1))).trans (fr0 a a1 a2)
  refine J_dup (pc1 := 9) rfl dX9_init_8 rfl ?_
  refine J_callIN_Ns (pc1 := 12) (As := []) (good_C lc_X2_init) yv_X2_init ln_X2 (host := "BorrowedHours") (List.mem_of_getElem? (i := 0) rfl) li_X2_init (c_X2_init k1_q1) dX9_init_9 rfl rfl rfl (by omega) (by decide) (by omega) (by omega) (Nat.le_of_ble_eq_true rfl) (fun T2 hT2 => ?_)
  obtain ⟨z2, o2, hG2, nz2, no2, frx2⟩ := hT2
  have ne_x_z2 : x ≠ z2 := ne_N k1_x nz2
  have ne_q1_z2 : q1 ≠ z2 := ne_N k1_q1 nz2
  have ne_x_o2 : x ≠ o2 := ne_N k1_x no2
  have ne_q1_o2 : q1 ≠ o2 := ne_N k1_q1 no2
  have k2_x := (frx2 x (nn_S k1_x) e_x_q1).trans k1_x
  have k3_q1 := hG2.1
  have k3_z2 := hG2.2.1
  have k3_o2 := hG2.2.2.1
  have fr2 : ∀ a, S a ≠ none → a ≠ x → T2 a = S a := fun a a1 a2 => (frx2 a (by rw [fr1 a a1 a2]; exact a1) (fun z9 => a1 (by rw [z9]; exact bq1))).trans (fr1 a a1 a2)
  have bz2 := base_none fr1 k1_x nz2
  have bo2 := base_none fr1 k1_x no2
  refine J_putF (pc1 := 15) (ty := (.object "BorrowedHours$Game")) (j := 0) (fs1 := [.ref q1, .null, .null, .null, .null, .null, .null, .null]) inUX9 (ci := 9) rfl (by decide) tyX9 tyX9_ok nmX9 rfl rfl rfl (by decide +kernel) lf_X9_12 dX9_init_12 rfl k2_x rfl (by rfl) (Nat.le_of_ble_eq_true rfl) rfl ?_
  have k4_q1 := (pu_ne T2 (oO 9 [.ref q1, .null, .null, .null, .null, .null, .null, .null]) (ne_ci k3_q1 k2_x (by decide))).trans k3_q1
  have k4_z2 := (pu_ne T2 (oO 9 [.ref q1, .null, .null, .null, .null, .null, .null, .null]) (ne_ci k3_z2 k2_x (by decide))).trans k3_z2
  have k4_o2 := (pu_ne T2 (oO 9 [.ref q1, .null, .null, .null, .null, .null, .null, .null]) (ne_ci k3_o2 k2_x (by decide))).trans k3_o2
  have k4_x := pu_self T2 x (oO 9 [.ref q1, .null, .null, .null, .null, .null, .null, .null])
  have fr4 : ∀ a, S a ≠ none → a ≠ x → (pu T2 x (oO 9 [.ref q1, .null, .null, .null, .null, .null, .null, .null])) a = S a := fun a a1 a2 => (pu_ne _ _ a2).trans (fr2 a a1 a2)
  generalize (pu T2 x (oO 9 [.ref q1, .null, .null, .null, .null, .null, .null, .null])) = T4 at k4_q1 k4_z2 k4_o2 k4_x fr4 ⊢
  refine J_aload_n (pc1 := 16) rfl (i := 0) rfl dX9_init_15 rfl ?_
  refine J_new (pc1 := 19) (fs := [.null, .int (iI 0)]) inUX3 (ci := 3) rfl tyX3 tyX3_ok ll_X9_16 lt_X3 ln_X3 df_X3 dX9_init_16 rfl (by omega) (by omega) (fun q2 n2 => ?_)
  have e_q1_q2 : q1 ≠ q2 := ne_N k4_q1 n2
  have e_z2_q2 : z2 ≠ q2 := ne_N k4_z2 n2
  have e_o2_q2 : o2 ≠ q2 := ne_N k4_o2 n2
  have e_x_q2 : x ≠ q2 := ne_N k4_x n2
  have k5_q1 := (pu_ne T4 (oO 3 [.null, .int (iI 0)]) e_q1_q2).trans k4_q1
  have k5_z2 := (pu_ne T4 (oO 3 [.null, .int (iI 0)]) e_z2_q2).trans k4_z2
  have k5_o2 := (pu_ne T4 (oO 3 [.null, .int (iI 0)]) e_o2_q2).trans k4_o2
  have k5_x := (pu_ne T4 (oO 3 [.null, .int (iI 0)]) e_x_q2).trans k4_x
  have k5_q2 := pu_self T4 q2 (oO 3 [.null, .int (iI 0)])
  have bq2 := base_none fr4 k4_x n2
  have fr5 : ∀ a, S a ≠ none → a ≠ x → (pu T4 q2 (oO 3 [.null, .int (iI 0)])) a = S a := fun a a1 a2 => (pu_ne _ _ (fun z9 => a1 (by rw [z9]; exact bq2))).trans (fr4 a a1 a2)
  refine J_dup (pc1 := 20) rfl dX9_init_19 rfl ?_
  refine J_callIN_Ns (pc1 := 23) (As := []) (good_C lc_X3_init) yv_X3_init ln_X3 (host := "BorrowedHours") (List.mem_of_getElem? (i := 2) rfl) li_X3_init (c_X3_init k5_q2) dX9_init_20 rfl rfl rfl (by omega) (by decide) (by omega) (by omega) (Nat.le_of_ble_eq_true rfl) (fun T6 hT6 => ?_)
  obtain ⟨ha6, hH6, nh6, frx6⟩ := hT6
  obtain ⟨st6, hst6, -, hs46⟩ := (hH6 (fun _ => 0)).2.1
  have ne_q1_ha6 : q1 ≠ ha6 := ne_N k5_q1 nh6
  have ne_z2_ha6 : z2 ≠ ha6 := ne_N k5_z2 nh6
  have ne_o2_ha6 : o2 ≠ ha6 := ne_N k5_o2 nh6
  have ne_x_ha6 : x ≠ ha6 := ne_N k5_x nh6
  have ne_q2_ha6 : q2 ≠ ha6 := ne_N k5_q2 nh6
  have k6_q1 := (frx6 q1 (nn_S k5_q1) e_q1_q2).trans k5_q1
  have k6_z2 := (frx6 z2 (nn_S k5_z2) e_z2_q2).trans k5_z2
  have k6_o2 := (frx6 o2 (nn_S k5_o2) e_o2_q2).trans k5_o2
  have k6_x := (frx6 x (nn_S k5_x) e_x_q2).trans k5_x
  have k7_q2 := (hH6 (fun _ => 0)).1
  have fr6 : ∀ a, S a ≠ none → a ≠ x → T6 a = S a := fun a a1 a2 => (frx6 a (by rw [fr5 a a1 a2]; exact a1) (fun z9 => a1 (by rw [z9]; exact bq2))).trans (fr5 a a1 a2)
  have bha6 := base_none fr5 k5_x nh6
  refine J_putF (pc1 := 26) (ty := (.object "BorrowedHours$History")) (j := 1) (fs1 := [.ref q1, .ref q2, .null, .null, .null, .null, .null, .null]) inUX9 (ci := 9) rfl (by decide) tyX9 tyX9_ok nmX9 rfl rfl rfl (by decide +kernel) lf_X9_19 dX9_init_23 rfl k6_x rfl (by rfl) (Nat.le_of_ble_eq_true rfl) rfl ?_
  have k8_q1 := (pu_ne T6 (oO 9 [.ref q1, .ref q2, .null, .null, .null, .null, .null, .null]) (ne_ci k6_q1 k6_x (by decide))).trans k6_q1
  have k8_z2 := (pu_ne T6 (oO 9 [.ref q1, .ref q2, .null, .null, .null, .null, .null, .null]) (ne_ci k6_z2 k6_x (by decide))).trans k6_z2
  have k8_o2 := (pu_ne T6 (oO 9 [.ref q1, .ref q2, .null, .null, .null, .null, .null, .null]) (ne_ci k6_o2 k6_x (by decide))).trans k6_o2
  have k8_q2 := (pu_ne T6 (oO 9 [.ref q1, .ref q2, .null, .null, .null, .null, .null, .null]) (ne_ci k7_q2 k6_x (by decide))).trans k7_q2
  have k8_ha6 := (pu_ne T6 (oO 9 [.ref q1, .ref q2, .null, .null, .null, .null, .null, .null]) (ne_QO hst6 k6_x)).trans hst6
  have k8_x := pu_self T6 x (oO 9 [.ref q1, .ref q2, .null, .null, .null, .null, .null, .null])
  have fr8 : ∀ a, S a ≠ none → a ≠ x → (pu T6 x (oO 9 [.ref q1, .ref q2, .null, .null, .null, .null, .null, .null])) a = S a := fun a a1 a2 => (pu_ne _ _ a2).trans (fr6 a a1 a2)
  generalize (pu T6 x (oO 9 [.ref q1, .ref q2, .null, .null, .null, .null, .null, .null])) = T8 at k8_q1 k8_z2 k8_o2 k8_q2 k8_ha6 k8_x fr8 ⊢
  refine J_aload_n (pc1 := 27) rfl (i := 0) rfl dX9_init_26 rfl ?_
  refine J_new (pc1 := 30) (fs := [.null, .int (iI 0)]) inUX7 (ci := 7) rfl tyX7 tyX7_ok ll_X9_23 lt_X7 ln_X7 df_X7 dX9_init_27 rfl (by omega) (by omega) (fun q3 n3 => ?_)
  have e_q1_q3 : q1 ≠ q3 := ne_N k8_q1 n3
  have e_z2_q3 : z2 ≠ q3 := ne_N k8_z2 n3
  have e_o2_q3 : o2 ≠ q3 := ne_N k8_o2 n3
  have e_q2_q3 : q2 ≠ q3 := ne_N k8_q2 n3
  have e_ha6_q3 : ha6 ≠ q3 := ne_N k8_ha6 n3
  have e_x_q3 : x ≠ q3 := ne_N k8_x n3
  have k9_q1 := (pu_ne T8 (oO 7 [.null, .int (iI 0)]) e_q1_q3).trans k8_q1
  have k9_z2 := (pu_ne T8 (oO 7 [.null, .int (iI 0)]) e_z2_q3).trans k8_z2
  have k9_o2 := (pu_ne T8 (oO 7 [.null, .int (iI 0)]) e_o2_q3).trans k8_o2
  have k9_q2 := (pu_ne T8 (oO 7 [.null, .int (iI 0)]) e_q2_q3).trans k8_q2
  have k9_ha6 := (pu_ne T8 (oO 7 [.null, .int (iI 0)]) e_ha6_q3).trans k8_ha6
  have k9_x := (pu_ne T8 (oO 7 [.null, .int (iI 0)]) e_x_q3).trans k8_x
  have k9_q3 := pu_self T8 q3 (oO 7 [.null, .int (iI 0)])
  have bq3 := base_none fr8 k8_x n3
  have fr9 : ∀ a, S a ≠ none → a ≠ x → (pu T8 q3 (oO 7 [.null, .int (iI 0)])) a = S a := fun a a1 a2 => (pu_ne _ _ (fun z9 => a1 (by rw [z9]; exact bq3))).trans (fr8 a a1 a2)
  refine J_dup (pc1 := 31) rfl dX9_init_30 rfl ?_
  refine J_callIN_Ns (pc1 := 34) (As := []) (good_C lc_X7_init) yv_X7_init ln_X7 (host := "BorrowedHours") (List.mem_of_getElem? (i := 3) rfl) li_X7_init (c_X7_init k9_q3) dX9_init_31 rfl rfl rfl (by omega) (by decide) (by omega) (by omega) (Nat.le_of_ble_eq_true rfl) (fun T10 hT10 => ?_)
  obtain ⟨g10, z10, o10, hs10, hG10, ng10, nz10, no10, frx10⟩ := hT10
  have ne_q1_g10 : q1 ≠ g10 := ne_N k9_q1 ng10
  have ne_z2_g10 : z2 ≠ g10 := ne_N k9_z2 ng10
  have ne_o2_g10 : o2 ≠ g10 := ne_N k9_o2 ng10
  have ne_q2_g10 : q2 ≠ g10 := ne_N k9_q2 ng10
  have ne_ha6_g10 : ha6 ≠ g10 := ne_N k9_ha6 ng10
  have ne_x_g10 : x ≠ g10 := ne_N k9_x ng10
  have ne_q3_g10 : q3 ≠ g10 := ne_N k9_q3 ng10
  have ne_q1_z10 : q1 ≠ z10 := ne_N k9_q1 nz10
  have ne_z2_z10 : z2 ≠ z10 := ne_N k9_z2 nz10
  have ne_o2_z10 : o2 ≠ z10 := ne_N k9_o2 nz10
  have ne_q2_z10 : q2 ≠ z10 := ne_N k9_q2 nz10
  have ne_ha6_z10 : ha6 ≠ z10 := ne_N k9_ha6 nz10
  have ne_x_z10 : x ≠ z10 := ne_N k9_x nz10
  have ne_q3_z10 : q3 ≠ z10 := ne_N k9_q3 nz10
  have ne_q1_o10 : q1 ≠ o10 := ne_N k9_q1 no10
  have ne_z2_o10 : z2 ≠ o10 := ne_N k9_z2 no10
  have ne_o2_o10 : o2 ≠ o10 := ne_N k9_o2 no10
  have ne_q2_o10 : q2 ≠ o10 := ne_N k9_q2 no10
  have ne_ha6_o10 : ha6 ≠ o10 := ne_N k9_ha6 no10
  have ne_x_o10 : x ≠ o10 := ne_N k9_x no10
  have ne_q3_o10 : q3 ≠ o10 := ne_N k9_q3 no10
  have k10_q1 := (frx10 q1 (nn_S k9_q1) e_q1_q3).trans k9_q1
  have k10_z2 := (frx10 z2 (nn_S k9_z2) e_z2_q3).trans k9_z2
  have k10_o2 := (frx10 o2 (nn_S k9_o2) e_o2_q3).trans k9_o2
  have k10_q2 := (frx10 q2 (nn_S k9_q2) e_q2_q3).trans k9_q2
  have k10_ha6 := (frx10 ha6 (nn_S k9_ha6) e_ha6_q3).trans k9_ha6
  have k10_x := (frx10 x (nn_S k9_x) e_x_q3).trans k9_x
  have k11_g10 := hG10.1
  have k11_z10 := hG10.2.1
  have k11_o10 := hG10.2.2.1
  have fr10 : ∀ a, S a ≠ none → a ≠ x → T10 a = S a := fun a a1 a2 => (frx10 a (by rw [fr9 a a1 a2]; exact a1) (fun z9 => a1 (by rw [z9]; exact bq3))).trans (fr9 a a1 a2)
  have bg10 := base_none fr9 k9_x ng10
  have bz10 := base_none fr9 k9_x nz10
  have bo10 := base_none fr9 k9_x no10
  refine J_putF (pc1 := 37) (ty := (.object "BorrowedHours$Slot")) (j := 2) (fs1 := [.ref q1, .ref q2, .ref q3, .null, .null, .null, .null, .null]) inUX9 (ci := 9) rfl (by decide) tyX9 tyX9_ok nmX9 rfl rfl rfl (by decide +kernel) lf_X9_26 dX9_init_34 rfl k10_x rfl (by rfl) (Nat.le_of_ble_eq_true rfl) rfl ?_
  have k12_q1 := (pu_ne T10 (oO 9 [.ref q1, .ref q2, .ref q3, .null, .null, .null, .null, .null]) (ne_ci k10_q1 k10_x (by decide))).trans k10_q1
  have k12_z2 := (pu_ne T10 (oO 9 [.ref q1, .ref q2, .ref q3, .null, .null, .null, .null, .null]) (ne_ci k10_z2 k10_x (by decide))).trans k10_z2
  have k12_o2 := (pu_ne T10 (oO 9 [.ref q1, .ref q2, .ref q3, .null, .null, .null, .null, .null]) (ne_ci k10_o2 k10_x (by decide))).trans k10_o2
  have k12_q2 := (pu_ne T10 (oO 9 [.ref q1, .ref q2, .ref q3, .null, .null, .null, .null, .null]) (ne_ci k10_q2 k10_x (by decide))).trans k10_q2
  have k12_ha6 := (pu_ne T10 (oO 9 [.ref q1, .ref q2, .ref q3, .null, .null, .null, .null, .null]) (ne_QO k10_ha6 k10_x)).trans k10_ha6
  have k12_q3 := (pu_ne T10 (oO 9 [.ref q1, .ref q2, .ref q3, .null, .null, .null, .null, .null]) (ne_ci hs10 k10_x (by decide))).trans hs10
  have k12_g10 := (pu_ne T10 (oO 9 [.ref q1, .ref q2, .ref q3, .null, .null, .null, .null, .null]) (ne_ci k11_g10 k10_x (by decide))).trans k11_g10
  have k12_z10 := (pu_ne T10 (oO 9 [.ref q1, .ref q2, .ref q3, .null, .null, .null, .null, .null]) (ne_ci k11_z10 k10_x (by decide))).trans k11_z10
  have k12_o10 := (pu_ne T10 (oO 9 [.ref q1, .ref q2, .ref q3, .null, .null, .null, .null, .null]) (ne_ci k11_o10 k10_x (by decide))).trans k11_o10
  have k12_x := pu_self T10 x (oO 9 [.ref q1, .ref q2, .ref q3, .null, .null, .null, .null, .null])
  have fr12 : ∀ a, S a ≠ none → a ≠ x → (pu T10 x (oO 9 [.ref q1, .ref q2, .ref q3, .null, .null, .null, .null, .null])) a = S a := fun a a1 a2 => (pu_ne _ _ a2).trans (fr10 a a1 a2)
  generalize (pu T10 x (oO 9 [.ref q1, .ref q2, .ref q3, .null, .null, .null, .null, .null])) = T12 at k12_q1 k12_z2 k12_o2 k12_q2 k12_ha6 k12_q3 k12_g10 k12_z10 k12_o10 k12_x fr12 ⊢
  refine J_aload_n (pc1 := 38) rfl (i := 0) rfl dX9_init_37 rfl ?_
  refine J_new (pc1 := 41) (fs := [.null, .int (iI 0)]) inUX7 (ci := 7) rfl tyX7 tyX7_ok ll_X9_23 lt_X7 ln_X7 df_X7 dX9_init_38 rfl (by omega) (by omega) (fun q4 n4 => ?_)
  have e_q1_q4 : q1 ≠ q4 := ne_N k12_q1 n4
  have e_z2_q4 : z2 ≠ q4 := ne_N k12_z2 n4
  have e_o2_q4 : o2 ≠ q4 := ne_N k12_o2 n4
  have e_q2_q4 : q2 ≠ q4 := ne_N k12_q2 n4
  have e_ha6_q4 : ha6 ≠ q4 := ne_N k12_ha6 n4
  have e_q3_q4 : q3 ≠ q4 := ne_N k12_q3 n4
  have e_g10_q4 : g10 ≠ q4 := ne_N k12_g10 n4
  have e_z10_q4 : z10 ≠ q4 := ne_N k12_z10 n4
  have e_o10_q4 : o10 ≠ q4 := ne_N k12_o10 n4
  have e_x_q4 : x ≠ q4 := ne_N k12_x n4
  have k13_q1 := (pu_ne T12 (oO 7 [.null, .int (iI 0)]) e_q1_q4).trans k12_q1
  have k13_z2 := (pu_ne T12 (oO 7 [.null, .int (iI 0)]) e_z2_q4).trans k12_z2
  have k13_o2 := (pu_ne T12 (oO 7 [.null, .int (iI 0)]) e_o2_q4).trans k12_o2
  have k13_q2 := (pu_ne T12 (oO 7 [.null, .int (iI 0)]) e_q2_q4).trans k12_q2
  have k13_ha6 := (pu_ne T12 (oO 7 [.null, .int (iI 0)]) e_ha6_q4).trans k12_ha6
  have k13_q3 := (pu_ne T12 (oO 7 [.null, .int (iI 0)]) e_q3_q4).trans k12_q3
  have k13_g10 := (pu_ne T12 (oO 7 [.null, .int (iI 0)]) e_g10_q4).trans k12_g10
  have k13_z10 := (pu_ne T12 (oO 7 [.null, .int (iI 0)]) e_z10_q4).trans k12_z10
  have k13_o10 := (pu_ne T12 (oO 7 [.null, .int (iI 0)]) e_o10_q4).trans k12_o10
  have k13_x := (pu_ne T12 (oO 7 [.null, .int (iI 0)]) e_x_q4).trans k12_x
  have k13_q4 := pu_self T12 q4 (oO 7 [.null, .int (iI 0)])
  have bq4 := base_none fr12 k12_x n4
  have fr13 : ∀ a, S a ≠ none → a ≠ x → (pu T12 q4 (oO 7 [.null, .int (iI 0)])) a = S a := fun a a1 a2 => (pu_ne _ _ (fun z9 => a1 (by rw [z9]; exact bq4))).trans (fr12 a a1 a2)
  refine J_dup (pc1 := 42) rfl dX9_init_41 rfl ?_
  refine J_callIN_Ns (pc1 := 45) (As := []) (good_C lc_X7_init) yv_X7_init ln_X7 (host := "BorrowedHours") (List.mem_of_getElem? (i := 3) rfl) li_X7_init (c_X7_init k13_q4) dX9_init_42 rfl rfl rfl (by omega) (by decide) (by omega) (by omega) (Nat.le_of_ble_eq_true rfl) (fun T14 hT14 => ?_)
  obtain ⟨g14, z14, o14, hs14, hG14, ng14, nz14, no14, frx14⟩ := hT14
  have ne_q1_g14 : q1 ≠ g14 := ne_N k13_q1 ng14
  have ne_z2_g14 : z2 ≠ g14 := ne_N k13_z2 ng14
  have ne_o2_g14 : o2 ≠ g14 := ne_N k13_o2 ng14
  have ne_q2_g14 : q2 ≠ g14 := ne_N k13_q2 ng14
  have ne_ha6_g14 : ha6 ≠ g14 := ne_N k13_ha6 ng14
  have ne_q3_g14 : q3 ≠ g14 := ne_N k13_q3 ng14
  have ne_g10_g14 : g10 ≠ g14 := ne_N k13_g10 ng14
  have ne_z10_g14 : z10 ≠ g14 := ne_N k13_z10 ng14
  have ne_o10_g14 : o10 ≠ g14 := ne_N k13_o10 ng14
  have ne_x_g14 : x ≠ g14 := ne_N k13_x ng14
  have ne_q4_g14 : q4 ≠ g14 := ne_N k13_q4 ng14
  have ne_q1_z14 : q1 ≠ z14 := ne_N k13_q1 nz14
  have ne_z2_z14 : z2 ≠ z14 := ne_N k13_z2 nz14
  have ne_o2_z14 : o2 ≠ z14 := ne_N k13_o2 nz14
  have ne_q2_z14 : q2 ≠ z14 := ne_N k13_q2 nz14
  have ne_ha6_z14 : ha6 ≠ z14 := ne_N k13_ha6 nz14
  have ne_q3_z14 : q3 ≠ z14 := ne_N k13_q3 nz14
  have ne_g10_z14 : g10 ≠ z14 := ne_N k13_g10 nz14
  have ne_z10_z14 : z10 ≠ z14 := ne_N k13_z10 nz14
  have ne_o10_z14 : o10 ≠ z14 := ne_N k13_o10 nz14
  have ne_x_z14 : x ≠ z14 := ne_N k13_x nz14
  have ne_q4_z14 : q4 ≠ z14 := ne_N k13_q4 nz14
  have ne_q1_o14 : q1 ≠ o14 := ne_N k13_q1 no14
  have ne_z2_o14 : z2 ≠ o14 := ne_N k13_z2 no14
  have ne_o2_o14 : o2 ≠ o14 := ne_N k13_o2 no14
  have ne_q2_o14 : q2 ≠ o14 := ne_N k13_q2 no14
  have ne_ha6_o14 : ha6 ≠ o14 := ne_N k13_ha6 no14
  have ne_q3_o14 : q3 ≠ o14 := ne_N k13_q3 no14
  have ne_g10_o14 : g10 ≠ o14 := ne_N k13_g10 no14
  have ne_z10_o14 : z10 ≠ o14 := ne_N k13_z10 no14
  have ne_o10_o14 : o10 ≠ o14 := ne_N k13_o10 no14
  have ne_x_o14 : x ≠ o14 := ne_N k13_x no14
  have ne_q4_o14 : q4 ≠ o14 := ne_N k13_q4 no14
  have k14_q1 := (frx14 q1 (nn_S k13_q1) e_q1_q4).trans k13_q1
  have k14_z2 := (frx14 z2 (nn_S k13_z2) e_z2_q4).trans k13_z2
  have k14_o2 := (frx14 o2 (nn_S k13_o2) e_o2_q4).trans k13_o2
  have k14_q2 := (frx14 q2 (nn_S k13_q2) e_q2_q4).trans k13_q2
  have k14_ha6 := (frx14 ha6 (nn_S k13_ha6) e_ha6_q4).trans k13_ha6
  have k14_q3 := (frx14 q3 (nn_S k13_q3) e_q3_q4).trans k13_q3
  have k14_g10 := (frx14 g10 (nn_S k13_g10) e_g10_q4).trans k13_g10
  have k14_z10 := (frx14 z10 (nn_S k13_z10) e_z10_q4).trans k13_z10
  have k14_o10 := (frx14 o10 (nn_S k13_o10) e_o10_q4).trans k13_o10
  have k14_x := (frx14 x (nn_S k13_x) e_x_q4).trans k13_x
  have k15_g14 := hG14.1
  have k15_z14 := hG14.2.1
  have k15_o14 := hG14.2.2.1
  have fr14 : ∀ a, S a ≠ none → a ≠ x → T14 a = S a := fun a a1 a2 => (frx14 a (by rw [fr13 a a1 a2]; exact a1) (fun z9 => a1 (by rw [z9]; exact bq4))).trans (fr13 a a1 a2)
  have bg14 := base_none fr13 k13_x ng14
  have bz14 := base_none fr13 k13_x nz14
  have bo14 := base_none fr13 k13_x no14
  refine J_putF (pc1 := 48) (ty := (.object "BorrowedHours$Slot")) (j := 3) (fs1 := [.ref q1, .ref q2, .ref q3, .ref q4, .null, .null, .null, .null]) inUX9 (ci := 9) rfl (by decide) tyX9 tyX9_ok nmX9 rfl rfl rfl (by decide +kernel) lf_X9_30 dX9_init_45 rfl k14_x rfl (by rfl) (Nat.le_of_ble_eq_true rfl) rfl ?_
  have k16_q1 := (pu_ne T14 (oO 9 [.ref q1, .ref q2, .ref q3, .ref q4, .null, .null, .null, .null]) (ne_ci k14_q1 k14_x (by decide))).trans k14_q1
  have k16_z2 := (pu_ne T14 (oO 9 [.ref q1, .ref q2, .ref q3, .ref q4, .null, .null, .null, .null]) (ne_ci k14_z2 k14_x (by decide))).trans k14_z2
  have k16_o2 := (pu_ne T14 (oO 9 [.ref q1, .ref q2, .ref q3, .ref q4, .null, .null, .null, .null]) (ne_ci k14_o2 k14_x (by decide))).trans k14_o2
  have k16_q2 := (pu_ne T14 (oO 9 [.ref q1, .ref q2, .ref q3, .ref q4, .null, .null, .null, .null]) (ne_ci k14_q2 k14_x (by decide))).trans k14_q2
  have k16_ha6 := (pu_ne T14 (oO 9 [.ref q1, .ref q2, .ref q3, .ref q4, .null, .null, .null, .null]) (ne_QO k14_ha6 k14_x)).trans k14_ha6
  have k16_q3 := (pu_ne T14 (oO 9 [.ref q1, .ref q2, .ref q3, .ref q4, .null, .null, .null, .null]) (ne_ci k14_q3 k14_x (by decide))).trans k14_q3
  have k16_g10 := (pu_ne T14 (oO 9 [.ref q1, .ref q2, .ref q3, .ref q4, .null, .null, .null, .null]) (ne_ci k14_g10 k14_x (by decide))).trans k14_g10
  have k16_z10 := (pu_ne T14 (oO 9 [.ref q1, .ref q2, .ref q3, .ref q4, .null, .null, .null, .null]) (ne_ci k14_z10 k14_x (by decide))).trans k14_z10
  have k16_o10 := (pu_ne T14 (oO 9 [.ref q1, .ref q2, .ref q3, .ref q4, .null, .null, .null, .null]) (ne_ci k14_o10 k14_x (by decide))).trans k14_o10
  have k16_q4 := (pu_ne T14 (oO 9 [.ref q1, .ref q2, .ref q3, .ref q4, .null, .null, .null, .null]) (ne_ci hs14 k14_x (by decide))).trans hs14
  have k16_g14 := (pu_ne T14 (oO 9 [.ref q1, .ref q2, .ref q3, .ref q4, .null, .null, .null, .null]) (ne_ci k15_g14 k14_x (by decide))).trans k15_g14
  have k16_z14 := (pu_ne T14 (oO 9 [.ref q1, .ref q2, .ref q3, .ref q4, .null, .null, .null, .null]) (ne_ci k15_z14 k14_x (by decide))).trans k15_z14
  have k16_o14 := (pu_ne T14 (oO 9 [.ref q1, .ref q2, .ref q3, .ref q4, .null, .null, .null, .null]) (ne_ci k15_o14 k14_x (by decide))).trans k15_o14
  have k16_x := pu_self T14 x (oO 9 [.ref q1, .ref q2, .ref q3, .ref q4, .null, .null, .null, .null])
  have fr16 : ∀ a, S a ≠ none → a ≠ x → (pu T14 x (oO 9 [.ref q1, .ref q2, .ref q3, .ref q4, .null, .null, .null, .null])) a = S a := fun a a1 a2 => (pu_ne _ _ a2).trans (fr14 a a1 a2)
  generalize (pu T14 x (oO 9 [.ref q1, .ref q2, .ref q3, .ref q4, .null, .null, .null, .null])) = T16 at k16_q1 k16_z2 k16_o2 k16_q2 k16_ha6 k16_q3 k16_g10 k16_z10 k16_o10 k16_q4 k16_g14 k16_z14 k16_o14 k16_x fr16 ⊢
  refine J_aload_n (pc1 := 49) rfl (i := 0) rfl dX9_init_48 rfl ?_
  refine J_new (pc1 := 52) (fs := [.null, .int (iI 0)]) inUX5 (ci := 5) rfl tyX5 tyX5_ok ll_X9_33 lt_X5 ln_X5 df_X5 dX9_init_49 rfl (by omega) (by omega) (fun q5 n5 => ?_)
  have e_q1_q5 : q1 ≠ q5 := ne_N k16_q1 n5
  have e_z2_q5 : z2 ≠ q5 := ne_N k16_z2 n5
  have e_o2_q5 : o2 ≠ q5 := ne_N k16_o2 n5
  have e_q2_q5 : q2 ≠ q5 := ne_N k16_q2 n5
  have e_ha6_q5 : ha6 ≠ q5 := ne_N k16_ha6 n5
  have e_q3_q5 : q3 ≠ q5 := ne_N k16_q3 n5
  have e_g10_q5 : g10 ≠ q5 := ne_N k16_g10 n5
  have e_z10_q5 : z10 ≠ q5 := ne_N k16_z10 n5
  have e_o10_q5 : o10 ≠ q5 := ne_N k16_o10 n5
  have e_q4_q5 : q4 ≠ q5 := ne_N k16_q4 n5
  have e_g14_q5 : g14 ≠ q5 := ne_N k16_g14 n5
  have e_z14_q5 : z14 ≠ q5 := ne_N k16_z14 n5
  have e_o14_q5 : o14 ≠ q5 := ne_N k16_o14 n5
  have e_x_q5 : x ≠ q5 := ne_N k16_x n5
  have k17_q1 := (pu_ne T16 (oO 5 [.null, .int (iI 0)]) e_q1_q5).trans k16_q1
  have k17_z2 := (pu_ne T16 (oO 5 [.null, .int (iI 0)]) e_z2_q5).trans k16_z2
  have k17_o2 := (pu_ne T16 (oO 5 [.null, .int (iI 0)]) e_o2_q5).trans k16_o2
  have k17_q2 := (pu_ne T16 (oO 5 [.null, .int (iI 0)]) e_q2_q5).trans k16_q2
  have k17_ha6 := (pu_ne T16 (oO 5 [.null, .int (iI 0)]) e_ha6_q5).trans k16_ha6
  have k17_q3 := (pu_ne T16 (oO 5 [.null, .int (iI 0)]) e_q3_q5).trans k16_q3
  have k17_g10 := (pu_ne T16 (oO 5 [.null, .int (iI 0)]) e_g10_q5).trans k16_g10
  have k17_z10 := (pu_ne T16 (oO 5 [.null, .int (iI 0)]) e_z10_q5).trans k16_z10
  have k17_o10 := (pu_ne T16 (oO 5 [.null, .int (iI 0)]) e_o10_q5).trans k16_o10
  have k17_q4 := (pu_ne T16 (oO 5 [.null, .int (iI 0)]) e_q4_q5).trans k16_q4
  have k17_g14 := (pu_ne T16 (oO 5 [.null, .int (iI 0)]) e_g14_q5).trans k16_g14
  have k17_z14 := (pu_ne T16 (oO 5 [.null, .int (iI 0)]) e_z14_q5).trans k16_z14
  have k17_o14 := (pu_ne T16 (oO 5 [.null, .int (iI 0)]) e_o14_q5).trans k16_o14
  have k17_x := (pu_ne T16 (oO 5 [.null, .int (iI 0)]) e_x_q5).trans k16_x
  have k17_q5 := pu_self T16 q5 (oO 5 [.null, .int (iI 0)])
  have bq5 := base_none fr16 k16_x n5
  have fr17 : ∀ a, S a ≠ none → a ≠ x → (pu T16 q5 (oO 5 [.null, .int (iI 0)])) a = S a := fun a a1 a2 => (pu_ne _ _ (fun z9 => a1 (by rw [z9]; exact bq5))).trans (fr16 a a1 a2)
  refine J_dup (pc1 := 53) rfl dX9_init_52 rfl ?_
  refine J_callIN_Ns (pc1 := 56) (As := []) (good_C lc_X5_init) yv_X5_init ln_X5 (host := "BorrowedHours") (List.mem_of_getElem? (i := 5) rfl) li_X5_init (c_X5_init k17_q5) dX9_init_53 rfl rfl rfl (by omega) (by decide) (by omega) (by omega) (Nat.le_of_ble_eq_true rfl) (fun T18 hT18 => ?_)
  obtain ⟨pa18, hP18, np18, frx18⟩ := hT18
  have ne_q1_pa18 : q1 ≠ pa18 := ne_N k17_q1 np18
  have ne_z2_pa18 : z2 ≠ pa18 := ne_N k17_z2 np18
  have ne_o2_pa18 : o2 ≠ pa18 := ne_N k17_o2 np18
  have ne_q2_pa18 : q2 ≠ pa18 := ne_N k17_q2 np18
  have ne_ha6_pa18 : ha6 ≠ pa18 := ne_N k17_ha6 np18
  have ne_q3_pa18 : q3 ≠ pa18 := ne_N k17_q3 np18
  have ne_g10_pa18 : g10 ≠ pa18 := ne_N k17_g10 np18
  have ne_z10_pa18 : z10 ≠ pa18 := ne_N k17_z10 np18
  have ne_o10_pa18 : o10 ≠ pa18 := ne_N k17_o10 np18
  have ne_q4_pa18 : q4 ≠ pa18 := ne_N k17_q4 np18
  have ne_g14_pa18 : g14 ≠ pa18 := ne_N k17_g14 np18
  have ne_z14_pa18 : z14 ≠ pa18 := ne_N k17_z14 np18
  have ne_o14_pa18 : o14 ≠ pa18 := ne_N k17_o14 np18
  have ne_x_pa18 : x ≠ pa18 := ne_N k17_x np18
  have ne_q5_pa18 : q5 ≠ pa18 := ne_N k17_q5 np18
  have k18_q1 := (frx18 q1 (nn_S k17_q1) e_q1_q5).trans k17_q1
  have k18_z2 := (frx18 z2 (nn_S k17_z2) e_z2_q5).trans k17_z2
  have k18_o2 := (frx18 o2 (nn_S k17_o2) e_o2_q5).trans k17_o2
  have k18_q2 := (frx18 q2 (nn_S k17_q2) e_q2_q5).trans k17_q2
  have k18_ha6 := (frx18 ha6 (nn_S k17_ha6) e_ha6_q5).trans k17_ha6
  have k18_q3 := (frx18 q3 (nn_S k17_q3) e_q3_q5).trans k17_q3
  have k18_g10 := (frx18 g10 (nn_S k17_g10) e_g10_q5).trans k17_g10
  have k18_z10 := (frx18 z10 (nn_S k17_z10) e_z10_q5).trans k17_z10
  have k18_o10 := (frx18 o10 (nn_S k17_o10) e_o10_q5).trans k17_o10
  have k18_q4 := (frx18 q4 (nn_S k17_q4) e_q4_q5).trans k17_q4
  have k18_g14 := (frx18 g14 (nn_S k17_g14) e_g14_q5).trans k17_g14
  have k18_z14 := (frx18 z14 (nn_S k17_z14) e_z14_q5).trans k17_z14
  have k18_o14 := (frx18 o14 (nn_S k17_o14) e_o14_q5).trans k17_o14
  have k18_x := (frx18 x (nn_S k17_x) e_x_q5).trans k17_x
  have k19_q5 := hP18.1
  have k19_pa18 := hP18.2.1
  have fr18 : ∀ a, S a ≠ none → a ≠ x → T18 a = S a := fun a a1 a2 => (frx18 a (by rw [fr17 a a1 a2]; exact a1) (fun z9 => a1 (by rw [z9]; exact bq5))).trans (fr17 a a1 a2)
  have bpa18 := base_none fr17 k17_x np18
  refine J_putF (pc1 := 59) (ty := (.object "BorrowedHours$Pad")) (j := 4) (fs1 := [.ref q1, .ref q2, .ref q3, .ref q4, .ref q5, .null, .null, .null]) inUX9 (ci := 9) rfl (by decide) tyX9 tyX9_ok nmX9 rfl rfl rfl (by decide +kernel) lf_X9_36 dX9_init_56 rfl k18_x rfl (by rfl) (Nat.le_of_ble_eq_true rfl) rfl ?_
  have k20_q1 := (pu_ne T18 (oO 9 [.ref q1, .ref q2, .ref q3, .ref q4, .ref q5, .null, .null, .null]) (ne_ci k18_q1 k18_x (by decide))).trans k18_q1
  have k20_z2 := (pu_ne T18 (oO 9 [.ref q1, .ref q2, .ref q3, .ref q4, .ref q5, .null, .null, .null]) (ne_ci k18_z2 k18_x (by decide))).trans k18_z2
  have k20_o2 := (pu_ne T18 (oO 9 [.ref q1, .ref q2, .ref q3, .ref q4, .ref q5, .null, .null, .null]) (ne_ci k18_o2 k18_x (by decide))).trans k18_o2
  have k20_q2 := (pu_ne T18 (oO 9 [.ref q1, .ref q2, .ref q3, .ref q4, .ref q5, .null, .null, .null]) (ne_ci k18_q2 k18_x (by decide))).trans k18_q2
  have k20_ha6 := (pu_ne T18 (oO 9 [.ref q1, .ref q2, .ref q3, .ref q4, .ref q5, .null, .null, .null]) (ne_QO k18_ha6 k18_x)).trans k18_ha6
  have k20_q3 := (pu_ne T18 (oO 9 [.ref q1, .ref q2, .ref q3, .ref q4, .ref q5, .null, .null, .null]) (ne_ci k18_q3 k18_x (by decide))).trans k18_q3
  have k20_g10 := (pu_ne T18 (oO 9 [.ref q1, .ref q2, .ref q3, .ref q4, .ref q5, .null, .null, .null]) (ne_ci k18_g10 k18_x (by decide))).trans k18_g10
  have k20_z10 := (pu_ne T18 (oO 9 [.ref q1, .ref q2, .ref q3, .ref q4, .ref q5, .null, .null, .null]) (ne_ci k18_z10 k18_x (by decide))).trans k18_z10
  have k20_o10 := (pu_ne T18 (oO 9 [.ref q1, .ref q2, .ref q3, .ref q4, .ref q5, .null, .null, .null]) (ne_ci k18_o10 k18_x (by decide))).trans k18_o10
  have k20_q4 := (pu_ne T18 (oO 9 [.ref q1, .ref q2, .ref q3, .ref q4, .ref q5, .null, .null, .null]) (ne_ci k18_q4 k18_x (by decide))).trans k18_q4
  have k20_g14 := (pu_ne T18 (oO 9 [.ref q1, .ref q2, .ref q3, .ref q4, .ref q5, .null, .null, .null]) (ne_ci k18_g14 k18_x (by decide))).trans k18_g14
  have k20_z14 := (pu_ne T18 (oO 9 [.ref q1, .ref q2, .ref q3, .ref q4, .ref q5, .null, .null, .null]) (ne_ci k18_z14 k18_x (by decide))).trans k18_z14
  have k20_o14 := (pu_ne T18 (oO 9 [.ref q1, .ref q2, .ref q3, .ref q4, .ref q5, .null, .null, .null]) (ne_ci k18_o14 k18_x (by decide))).trans k18_o14
  have k20_q5 := (pu_ne T18 (oO 9 [.ref q1, .ref q2, .ref q3, .ref q4, .ref q5, .null, .null, .null]) (ne_ci k19_q5 k18_x (by decide))).trans k19_q5
  have k20_pa18 := (pu_ne T18 (oO 9 [.ref q1, .ref q2, .ref q3, .ref q4, .ref q5, .null, .null, .null]) (ne_IO k19_pa18 k18_x)).trans k19_pa18
  have k20_x := pu_self T18 x (oO 9 [.ref q1, .ref q2, .ref q3, .ref q4, .ref q5, .null, .null, .null])
  have fr20 : ∀ a, S a ≠ none → a ≠ x → (pu T18 x (oO 9 [.ref q1, .ref q2, .ref q3, .ref q4, .ref q5, .null, .null, .null])) a = S a := fun a a1 a2 => (pu_ne _ _ a2).trans (fr18 a a1 a2)
  generalize (pu T18 x (oO 9 [.ref q1, .ref q2, .ref q3, .ref q4, .ref q5, .null, .null, .null])) = T20 at k20_q1 k20_z2 k20_o2 k20_q2 k20_ha6 k20_q3 k20_g10 k20_z10 k20_o10 k20_q4 k20_g14 k20_z14 k20_o14 k20_q5 k20_pa18 k20_x fr20 ⊢
  refine J_aload_n (pc1 := 60) rfl (i := 0) rfl dX9_init_59 rfl ?_
  refine J_new (pc1 := 63) (fs := [.null]) inUX4 (ci := 4) rfl tyX4 tyX4_ok ll_X9_40 lt_X4 ln_X4 df_X4 dX9_init_60 rfl (by omega) (by omega) (fun q6 n6 => ?_)
  have e_q1_q6 : q1 ≠ q6 := ne_N k20_q1 n6
  have e_z2_q6 : z2 ≠ q6 := ne_N k20_z2 n6
  have e_o2_q6 : o2 ≠ q6 := ne_N k20_o2 n6
  have e_q2_q6 : q2 ≠ q6 := ne_N k20_q2 n6
  have e_ha6_q6 : ha6 ≠ q6 := ne_N k20_ha6 n6
  have e_q3_q6 : q3 ≠ q6 := ne_N k20_q3 n6
  have e_g10_q6 : g10 ≠ q6 := ne_N k20_g10 n6
  have e_z10_q6 : z10 ≠ q6 := ne_N k20_z10 n6
  have e_o10_q6 : o10 ≠ q6 := ne_N k20_o10 n6
  have e_q4_q6 : q4 ≠ q6 := ne_N k20_q4 n6
  have e_g14_q6 : g14 ≠ q6 := ne_N k20_g14 n6
  have e_z14_q6 : z14 ≠ q6 := ne_N k20_z14 n6
  have e_o14_q6 : o14 ≠ q6 := ne_N k20_o14 n6
  have e_q5_q6 : q5 ≠ q6 := ne_N k20_q5 n6
  have e_pa18_q6 : pa18 ≠ q6 := ne_N k20_pa18 n6
  have e_x_q6 : x ≠ q6 := ne_N k20_x n6
  have k21_q1 := (pu_ne T20 (oO 4 [.null]) e_q1_q6).trans k20_q1
  have k21_z2 := (pu_ne T20 (oO 4 [.null]) e_z2_q6).trans k20_z2
  have k21_o2 := (pu_ne T20 (oO 4 [.null]) e_o2_q6).trans k20_o2
  have k21_q2 := (pu_ne T20 (oO 4 [.null]) e_q2_q6).trans k20_q2
  have k21_ha6 := (pu_ne T20 (oO 4 [.null]) e_ha6_q6).trans k20_ha6
  have k21_q3 := (pu_ne T20 (oO 4 [.null]) e_q3_q6).trans k20_q3
  have k21_g10 := (pu_ne T20 (oO 4 [.null]) e_g10_q6).trans k20_g10
  have k21_z10 := (pu_ne T20 (oO 4 [.null]) e_z10_q6).trans k20_z10
  have k21_o10 := (pu_ne T20 (oO 4 [.null]) e_o10_q6).trans k20_o10
  have k21_q4 := (pu_ne T20 (oO 4 [.null]) e_q4_q6).trans k20_q4
  have k21_g14 := (pu_ne T20 (oO 4 [.null]) e_g14_q6).trans k20_g14
  have k21_z14 := (pu_ne T20 (oO 4 [.null]) e_z14_q6).trans k20_z14
  have k21_o14 := (pu_ne T20 (oO 4 [.null]) e_o14_q6).trans k20_o14
  have k21_q5 := (pu_ne T20 (oO 4 [.null]) e_q5_q6).trans k20_q5
  have k21_pa18 := (pu_ne T20 (oO 4 [.null]) e_pa18_q6).trans k20_pa18
  have k21_x := (pu_ne T20 (oO 4 [.null]) e_x_q6).trans k20_x
  have k21_q6 := pu_self T20 q6 (oO 4 [.null])
  have bq6 := base_none fr20 k20_x n6
  have fr21 : ∀ a, S a ≠ none → a ≠ x → (pu T20 q6 (oO 4 [.null])) a = S a := fun a a1 a2 => (pu_ne _ _ (fun z9 => a1 (by rw [z9]; exact bq6))).trans (fr20 a a1 a2)
  refine J_dup (pc1 := 64) rfl dX9_init_63 rfl ?_
  refine J_callIN_Ns (pc1 := 67) (As := []) (good_C lc_X4_init) yv_X4_init ln_X4 (host := "BorrowedHours") (List.mem_of_getElem? (i := 6) rfl) li_X4_init (c_X4_init k21_q6) dX9_init_64 rfl rfl rfl (by omega) (by decide) (by omega) (by omega) (Nat.le_of_ble_eq_true rfl) (fun T22 hT22 => ?_)
  obtain ⟨ma22, hM22, nm22, frx22⟩ := hT22
  have ne_q1_ma22 : q1 ≠ ma22 := ne_N k21_q1 nm22
  have ne_z2_ma22 : z2 ≠ ma22 := ne_N k21_z2 nm22
  have ne_o2_ma22 : o2 ≠ ma22 := ne_N k21_o2 nm22
  have ne_q2_ma22 : q2 ≠ ma22 := ne_N k21_q2 nm22
  have ne_ha6_ma22 : ha6 ≠ ma22 := ne_N k21_ha6 nm22
  have ne_q3_ma22 : q3 ≠ ma22 := ne_N k21_q3 nm22
  have ne_g10_ma22 : g10 ≠ ma22 := ne_N k21_g10 nm22
  have ne_z10_ma22 : z10 ≠ ma22 := ne_N k21_z10 nm22
  have ne_o10_ma22 : o10 ≠ ma22 := ne_N k21_o10 nm22
  have ne_q4_ma22 : q4 ≠ ma22 := ne_N k21_q4 nm22
  have ne_g14_ma22 : g14 ≠ ma22 := ne_N k21_g14 nm22
  have ne_z14_ma22 : z14 ≠ ma22 := ne_N k21_z14 nm22
  have ne_o14_ma22 : o14 ≠ ma22 := ne_N k21_o14 nm22
  have ne_q5_ma22 : q5 ≠ ma22 := ne_N k21_q5 nm22
  have ne_pa18_ma22 : pa18 ≠ ma22 := ne_N k21_pa18 nm22
  have ne_x_ma22 : x ≠ ma22 := ne_N k21_x nm22
  have ne_q6_ma22 : q6 ≠ ma22 := ne_N k21_q6 nm22
  have k22_q1 := (frx22 q1 (nn_S k21_q1) e_q1_q6).trans k21_q1
  have k22_z2 := (frx22 z2 (nn_S k21_z2) e_z2_q6).trans k21_z2
  have k22_o2 := (frx22 o2 (nn_S k21_o2) e_o2_q6).trans k21_o2
  have k22_q2 := (frx22 q2 (nn_S k21_q2) e_q2_q6).trans k21_q2
  have k22_ha6 := (frx22 ha6 (nn_S k21_ha6) e_ha6_q6).trans k21_ha6
  have k22_q3 := (frx22 q3 (nn_S k21_q3) e_q3_q6).trans k21_q3
  have k22_g10 := (frx22 g10 (nn_S k21_g10) e_g10_q6).trans k21_g10
  have k22_z10 := (frx22 z10 (nn_S k21_z10) e_z10_q6).trans k21_z10
  have k22_o10 := (frx22 o10 (nn_S k21_o10) e_o10_q6).trans k21_o10
  have k22_q4 := (frx22 q4 (nn_S k21_q4) e_q4_q6).trans k21_q4
  have k22_g14 := (frx22 g14 (nn_S k21_g14) e_g14_q6).trans k21_g14
  have k22_z14 := (frx22 z14 (nn_S k21_z14) e_z14_q6).trans k21_z14
  have k22_o14 := (frx22 o14 (nn_S k21_o14) e_o14_q6).trans k21_o14
  have k22_q5 := (frx22 q5 (nn_S k21_q5) e_q5_q6).trans k21_q5
  have k22_pa18 := (frx22 pa18 (nn_S k21_pa18) e_pa18_q6).trans k21_pa18
  have k22_x := (frx22 x (nn_S k21_x) e_x_q6).trans k21_x
  have k23_q6 := (hM22 (fun _ => False)).1
  have k23_ma22 := (hM22 (fun _ => False)).2.1
  have fr22 : ∀ a, S a ≠ none → a ≠ x → T22 a = S a := fun a a1 a2 => (frx22 a (by rw [fr21 a a1 a2]; exact a1) (fun z9 => a1 (by rw [z9]; exact bq6))).trans (fr21 a a1 a2)
  have bma22 := base_none fr21 k21_x nm22
  refine J_putF (pc1 := 70) (ty := (.object "BorrowedHours$Memory")) (j := 5) (fs1 := [.ref q1, .ref q2, .ref q3, .ref q4, .ref q5, .ref q6, .null, .null]) inUX9 (ci := 9) rfl (by decide) tyX9 tyX9_ok nmX9 rfl rfl rfl (by decide +kernel) lf_X9_43 dX9_init_67 rfl k22_x rfl (by rfl) (Nat.le_of_ble_eq_true rfl) rfl ?_
  have k24_q1 := (pu_ne T22 (oO 9 [.ref q1, .ref q2, .ref q3, .ref q4, .ref q5, .ref q6, .null, .null]) (ne_ci k22_q1 k22_x (by decide))).trans k22_q1
  have k24_z2 := (pu_ne T22 (oO 9 [.ref q1, .ref q2, .ref q3, .ref q4, .ref q5, .ref q6, .null, .null]) (ne_ci k22_z2 k22_x (by decide))).trans k22_z2
  have k24_o2 := (pu_ne T22 (oO 9 [.ref q1, .ref q2, .ref q3, .ref q4, .ref q5, .ref q6, .null, .null]) (ne_ci k22_o2 k22_x (by decide))).trans k22_o2
  have k24_q2 := (pu_ne T22 (oO 9 [.ref q1, .ref q2, .ref q3, .ref q4, .ref q5, .ref q6, .null, .null]) (ne_ci k22_q2 k22_x (by decide))).trans k22_q2
  have k24_ha6 := (pu_ne T22 (oO 9 [.ref q1, .ref q2, .ref q3, .ref q4, .ref q5, .ref q6, .null, .null]) (ne_QO k22_ha6 k22_x)).trans k22_ha6
  have k24_q3 := (pu_ne T22 (oO 9 [.ref q1, .ref q2, .ref q3, .ref q4, .ref q5, .ref q6, .null, .null]) (ne_ci k22_q3 k22_x (by decide))).trans k22_q3
  have k24_g10 := (pu_ne T22 (oO 9 [.ref q1, .ref q2, .ref q3, .ref q4, .ref q5, .ref q6, .null, .null]) (ne_ci k22_g10 k22_x (by decide))).trans k22_g10
  have k24_z10 := (pu_ne T22 (oO 9 [.ref q1, .ref q2, .ref q3, .ref q4, .ref q5, .ref q6, .null, .null]) (ne_ci k22_z10 k22_x (by decide))).trans k22_z10
  have k24_o10 := (pu_ne T22 (oO 9 [.ref q1, .ref q2, .ref q3, .ref q4, .ref q5, .ref q6, .null, .null]) (ne_ci k22_o10 k22_x (by decide))).trans k22_o10
  have k24_q4 := (pu_ne T22 (oO 9 [.ref q1, .ref q2, .ref q3, .ref q4, .ref q5, .ref q6, .null, .null]) (ne_ci k22_q4 k22_x (by decide))).trans k22_q4
  have k24_g14 := (pu_ne T22 (oO 9 [.ref q1, .ref q2, .ref q3, .ref q4, .ref q5, .ref q6, .null, .null]) (ne_ci k22_g14 k22_x (by decide))).trans k22_g14
  have k24_z14 := (pu_ne T22 (oO 9 [.ref q1, .ref q2, .ref q3, .ref q4, .ref q5, .ref q6, .null, .null]) (ne_ci k22_z14 k22_x (by decide))).trans k22_z14
  have k24_o14 := (pu_ne T22 (oO 9 [.ref q1, .ref q2, .ref q3, .ref q4, .ref q5, .ref q6, .null, .null]) (ne_ci k22_o14 k22_x (by decide))).trans k22_o14
  have k24_q5 := (pu_ne T22 (oO 9 [.ref q1, .ref q2, .ref q3, .ref q4, .ref q5, .ref q6, .null, .null]) (ne_ci k22_q5 k22_x (by decide))).trans k22_q5
  have k24_pa18 := (pu_ne T22 (oO 9 [.ref q1, .ref q2, .ref q3, .ref q4, .ref q5, .ref q6, .null, .null]) (ne_IO k22_pa18 k22_x)).trans k22_pa18
  have k24_q6 := (pu_ne T22 (oO 9 [.ref q1, .ref q2, .ref q3, .ref q4, .ref q5, .ref q6, .null, .null]) (ne_ci k23_q6 k22_x (by decide))).trans k23_q6
  have k24_ma22 := (pu_ne T22 (oO 9 [.ref q1, .ref q2, .ref q3, .ref q4, .ref q5, .ref q6, .null, .null]) (ne_QO k23_ma22 k22_x)).trans k23_ma22
  have k24_x := pu_self T22 x (oO 9 [.ref q1, .ref q2, .ref q3, .ref q4, .ref q5, .ref q6, .null, .null])
  have fr24 : ∀ a, S a ≠ none → a ≠ x → (pu T22 x (oO 9 [.ref q1, .ref q2, .ref q3, .ref q4, .ref q5, .ref q6, .null, .null])) a = S a := fun a a1 a2 => (pu_ne _ _ a2).trans (fr22 a a1 a2)
  generalize (pu T22 x (oO 9 [.ref q1, .ref q2, .ref q3, .ref q4, .ref q5, .ref q6, .null, .null])) = T24 at k24_q1 k24_z2 k24_o2 k24_q2 k24_ha6 k24_q3 k24_g10 k24_z10 k24_o10 k24_q4 k24_g14 k24_z14 k24_o14 k24_q5 k24_pa18 k24_q6 k24_ma22 k24_x fr24 ⊢
  refine J_aload_n (pc1 := 71) rfl (i := 0) rfl dX9_init_70 rfl ?_
  refine J_new (pc1 := 74) (fs := [.null]) inUX0 (ci := 0) rfl tyX0 tyX0_ok ll_X9_47 lt_X0 ln_X0 df_X0 dX9_init_71 rfl (by omega) (by omega) (fun q7 n7 => ?_)
  have e_q1_q7 : q1 ≠ q7 := ne_N k24_q1 n7
  have e_z2_q7 : z2 ≠ q7 := ne_N k24_z2 n7
  have e_o2_q7 : o2 ≠ q7 := ne_N k24_o2 n7
  have e_q2_q7 : q2 ≠ q7 := ne_N k24_q2 n7
  have e_ha6_q7 : ha6 ≠ q7 := ne_N k24_ha6 n7
  have e_q3_q7 : q3 ≠ q7 := ne_N k24_q3 n7
  have e_g10_q7 : g10 ≠ q7 := ne_N k24_g10 n7
  have e_z10_q7 : z10 ≠ q7 := ne_N k24_z10 n7
  have e_o10_q7 : o10 ≠ q7 := ne_N k24_o10 n7
  have e_q4_q7 : q4 ≠ q7 := ne_N k24_q4 n7
  have e_g14_q7 : g14 ≠ q7 := ne_N k24_g14 n7
  have e_z14_q7 : z14 ≠ q7 := ne_N k24_z14 n7
  have e_o14_q7 : o14 ≠ q7 := ne_N k24_o14 n7
  have e_q5_q7 : q5 ≠ q7 := ne_N k24_q5 n7
  have e_pa18_q7 : pa18 ≠ q7 := ne_N k24_pa18 n7
  have e_q6_q7 : q6 ≠ q7 := ne_N k24_q6 n7
  have e_ma22_q7 : ma22 ≠ q7 := ne_N k24_ma22 n7
  have e_x_q7 : x ≠ q7 := ne_N k24_x n7
  have k25_q1 := (pu_ne T24 (oO 0 [.null]) e_q1_q7).trans k24_q1
  have k25_z2 := (pu_ne T24 (oO 0 [.null]) e_z2_q7).trans k24_z2
  have k25_o2 := (pu_ne T24 (oO 0 [.null]) e_o2_q7).trans k24_o2
  have k25_q2 := (pu_ne T24 (oO 0 [.null]) e_q2_q7).trans k24_q2
  have k25_ha6 := (pu_ne T24 (oO 0 [.null]) e_ha6_q7).trans k24_ha6
  have k25_q3 := (pu_ne T24 (oO 0 [.null]) e_q3_q7).trans k24_q3
  have k25_g10 := (pu_ne T24 (oO 0 [.null]) e_g10_q7).trans k24_g10
  have k25_z10 := (pu_ne T24 (oO 0 [.null]) e_z10_q7).trans k24_z10
  have k25_o10 := (pu_ne T24 (oO 0 [.null]) e_o10_q7).trans k24_o10
  have k25_q4 := (pu_ne T24 (oO 0 [.null]) e_q4_q7).trans k24_q4
  have k25_g14 := (pu_ne T24 (oO 0 [.null]) e_g14_q7).trans k24_g14
  have k25_z14 := (pu_ne T24 (oO 0 [.null]) e_z14_q7).trans k24_z14
  have k25_o14 := (pu_ne T24 (oO 0 [.null]) e_o14_q7).trans k24_o14
  have k25_q5 := (pu_ne T24 (oO 0 [.null]) e_q5_q7).trans k24_q5
  have k25_pa18 := (pu_ne T24 (oO 0 [.null]) e_pa18_q7).trans k24_pa18
  have k25_q6 := (pu_ne T24 (oO 0 [.null]) e_q6_q7).trans k24_q6
  have k25_ma22 := (pu_ne T24 (oO 0 [.null]) e_ma22_q7).trans k24_ma22
  have k25_x := (pu_ne T24 (oO 0 [.null]) e_x_q7).trans k24_x
  have k25_q7 := pu_self T24 q7 (oO 0 [.null])
  have bq7 := base_none fr24 k24_x n7
  have fr25 : ∀ a, S a ≠ none → a ≠ x → (pu T24 q7 (oO 0 [.null])) a = S a := fun a a1 a2 => (pu_ne _ _ (fun z9 => a1 (by rw [z9]; exact bq7))).trans (fr24 a a1 a2)
  refine J_dup (pc1 := 75) rfl dX9_init_74 rfl ?_
  refine J_aload_n (pc1 := 76) rfl (i := 0) rfl dX9_init_75 rfl ?_
  refine J_get (pc1 := 79) (j := 0) inUX9 (ci := 9) rfl (by decide) lf_X9_12 dX9_init_76 rfl k25_x rfl ?_
  refine J_callI_N (pc1 := 82) (As := [.ref q1]) (good_C lc_X0_init) yv_X0_init ln_X0 lm_X9_49 li_X0_init (c_X0_init k25_q7) dX9_init_79 rfl rfl rfl (by omega) (by decide) (by omega) (by omega) (Nat.le_of_ble_eq_true rfl) ?_
  rw [pu_pu]
  have k26_q1 := (pu_ne T24 (oO 0 [.ref q1]) e_q1_q7).trans k24_q1
  have k26_z2 := (pu_ne T24 (oO 0 [.ref q1]) e_z2_q7).trans k24_z2
  have k26_o2 := (pu_ne T24 (oO 0 [.ref q1]) e_o2_q7).trans k24_o2
  have k26_q2 := (pu_ne T24 (oO 0 [.ref q1]) e_q2_q7).trans k24_q2
  have k26_ha6 := (pu_ne T24 (oO 0 [.ref q1]) e_ha6_q7).trans k24_ha6
  have k26_q3 := (pu_ne T24 (oO 0 [.ref q1]) e_q3_q7).trans k24_q3
  have k26_g10 := (pu_ne T24 (oO 0 [.ref q1]) e_g10_q7).trans k24_g10
  have k26_z10 := (pu_ne T24 (oO 0 [.ref q1]) e_z10_q7).trans k24_z10
  have k26_o10 := (pu_ne T24 (oO 0 [.ref q1]) e_o10_q7).trans k24_o10
  have k26_q4 := (pu_ne T24 (oO 0 [.ref q1]) e_q4_q7).trans k24_q4
  have k26_g14 := (pu_ne T24 (oO 0 [.ref q1]) e_g14_q7).trans k24_g14
  have k26_z14 := (pu_ne T24 (oO 0 [.ref q1]) e_z14_q7).trans k24_z14
  have k26_o14 := (pu_ne T24 (oO 0 [.ref q1]) e_o14_q7).trans k24_o14
  have k26_q5 := (pu_ne T24 (oO 0 [.ref q1]) e_q5_q7).trans k24_q5
  have k26_pa18 := (pu_ne T24 (oO 0 [.ref q1]) e_pa18_q7).trans k24_pa18
  have k26_q6 := (pu_ne T24 (oO 0 [.ref q1]) e_q6_q7).trans k24_q6
  have k26_ma22 := (pu_ne T24 (oO 0 [.ref q1]) e_ma22_q7).trans k24_ma22
  have k26_x := (pu_ne T24 (oO 0 [.ref q1]) e_x_q7).trans k24_x
  have k26_q7 := pu_self T24 q7 (oO 0 [.ref q1])
  have fr26 : ∀ a, S a ≠ none → a ≠ x → (pu T24 q7 (oO 0 [.ref q1])) a = S a := fun a a1 a2 => (pu_ne _ _ (fun z9 => a1 (by rw [z9]; exact bq7))).trans (fr24 a a1 a2)
  generalize (pu T24 q7 (oO 0 [.ref q1])) = T26 at k26_q1 k26_z2 k26_o2 k26_q2 k26_ha6 k26_q3 k26_g10 k26_z10 k26_o10 k26_q4 k26_g14 k26_z14 k26_o14 k26_q5 k26_pa18 k26_q6 k26_ma22 k26_x k26_q7 fr26 ⊢
  refine J_putF (pc1 := 85) (ty := (.object "BorrowedHours$Advice")) (j := 6) (fs1 := [.ref q1, .ref q2, .ref q3, .ref q4, .ref q5, .ref q6, .ref q7, .null]) inUX9 (ci := 9) rfl (by decide) tyX9 tyX9_ok nmX9 rfl rfl rfl (by decide +kernel) lf_X9_52 dX9_init_82 rfl k26_x rfl (by rfl) (Nat.le_of_ble_eq_true rfl) rfl ?_
  have k27_q1 := (pu_ne T26 (oO 9 [.ref q1, .ref q2, .ref q3, .ref q4, .ref q5, .ref q6, .ref q7, .null]) (ne_ci k26_q1 k26_x (by decide))).trans k26_q1
  have k27_z2 := (pu_ne T26 (oO 9 [.ref q1, .ref q2, .ref q3, .ref q4, .ref q5, .ref q6, .ref q7, .null]) (ne_ci k26_z2 k26_x (by decide))).trans k26_z2
  have k27_o2 := (pu_ne T26 (oO 9 [.ref q1, .ref q2, .ref q3, .ref q4, .ref q5, .ref q6, .ref q7, .null]) (ne_ci k26_o2 k26_x (by decide))).trans k26_o2
  have k27_q2 := (pu_ne T26 (oO 9 [.ref q1, .ref q2, .ref q3, .ref q4, .ref q5, .ref q6, .ref q7, .null]) (ne_ci k26_q2 k26_x (by decide))).trans k26_q2
  have k27_ha6 := (pu_ne T26 (oO 9 [.ref q1, .ref q2, .ref q3, .ref q4, .ref q5, .ref q6, .ref q7, .null]) (ne_QO k26_ha6 k26_x)).trans k26_ha6
  have k27_q3 := (pu_ne T26 (oO 9 [.ref q1, .ref q2, .ref q3, .ref q4, .ref q5, .ref q6, .ref q7, .null]) (ne_ci k26_q3 k26_x (by decide))).trans k26_q3
  have k27_g10 := (pu_ne T26 (oO 9 [.ref q1, .ref q2, .ref q3, .ref q4, .ref q5, .ref q6, .ref q7, .null]) (ne_ci k26_g10 k26_x (by decide))).trans k26_g10
  have k27_z10 := (pu_ne T26 (oO 9 [.ref q1, .ref q2, .ref q3, .ref q4, .ref q5, .ref q6, .ref q7, .null]) (ne_ci k26_z10 k26_x (by decide))).trans k26_z10
  have k27_o10 := (pu_ne T26 (oO 9 [.ref q1, .ref q2, .ref q3, .ref q4, .ref q5, .ref q6, .ref q7, .null]) (ne_ci k26_o10 k26_x (by decide))).trans k26_o10
  have k27_q4 := (pu_ne T26 (oO 9 [.ref q1, .ref q2, .ref q3, .ref q4, .ref q5, .ref q6, .ref q7, .null]) (ne_ci k26_q4 k26_x (by decide))).trans k26_q4
  have k27_g14 := (pu_ne T26 (oO 9 [.ref q1, .ref q2, .ref q3, .ref q4, .ref q5, .ref q6, .ref q7, .null]) (ne_ci k26_g14 k26_x (by decide))).trans k26_g14
  have k27_z14 := (pu_ne T26 (oO 9 [.ref q1, .ref q2, .ref q3, .ref q4, .ref q5, .ref q6, .ref q7, .null]) (ne_ci k26_z14 k26_x (by decide))).trans k26_z14
  have k27_o14 := (pu_ne T26 (oO 9 [.ref q1, .ref q2, .ref q3, .ref q4, .ref q5, .ref q6, .ref q7, .null]) (ne_ci k26_o14 k26_x (by decide))).trans k26_o14
  have k27_q5 := (pu_ne T26 (oO 9 [.ref q1, .ref q2, .ref q3, .ref q4, .ref q5, .ref q6, .ref q7, .null]) (ne_ci k26_q5 k26_x (by decide))).trans k26_q5
  have k27_pa18 := (pu_ne T26 (oO 9 [.ref q1, .ref q2, .ref q3, .ref q4, .ref q5, .ref q6, .ref q7, .null]) (ne_IO k26_pa18 k26_x)).trans k26_pa18
  have k27_q6 := (pu_ne T26 (oO 9 [.ref q1, .ref q2, .ref q3, .ref q4, .ref q5, .ref q6, .ref q7, .null]) (ne_ci k26_q6 k26_x (by decide))).trans k26_q6
  have k27_ma22 := (pu_ne T26 (oO 9 [.ref q1, .ref q2, .ref q3, .ref q4, .ref q5, .ref q6, .ref q7, .null]) (ne_QO k26_ma22 k26_x)).trans k26_ma22
  have k27_q7 := (pu_ne T26 (oO 9 [.ref q1, .ref q2, .ref q3, .ref q4, .ref q5, .ref q6, .ref q7, .null]) (ne_ci k26_q7 k26_x (by decide))).trans k26_q7
  have k27_x := pu_self T26 x (oO 9 [.ref q1, .ref q2, .ref q3, .ref q4, .ref q5, .ref q6, .ref q7, .null])
  have fr27 : ∀ a, S a ≠ none → a ≠ x → (pu T26 x (oO 9 [.ref q1, .ref q2, .ref q3, .ref q4, .ref q5, .ref q6, .ref q7, .null])) a = S a := fun a a1 a2 => (pu_ne _ _ a2).trans (fr26 a a1 a2)
  generalize (pu T26 x (oO 9 [.ref q1, .ref q2, .ref q3, .ref q4, .ref q5, .ref q6, .ref q7, .null])) = T27 at k27_q1 k27_z2 k27_o2 k27_q2 k27_ha6 k27_q3 k27_g10 k27_z10 k27_o10 k27_q4 k27_g14 k27_z14 k27_o14 k27_q5 k27_pa18 k27_q6 k27_ma22 k27_q7 k27_x fr27 ⊢
  refine J_aload_n (pc1 := 86) rfl (i := 0) rfl dX9_init_85 rfl ?_
  refine J_new (pc1 := 89) (fs := [.null]) inUX1 (ci := 1) rfl tyX1 tyX1_ok ll_X9_56 lt_X1 ln_X1 df_X1 dX9_init_86 rfl (by omega) (by omega) (fun q8 n8 => ?_)
  have e_q1_q8 : q1 ≠ q8 := ne_N k27_q1 n8
  have e_z2_q8 : z2 ≠ q8 := ne_N k27_z2 n8
  have e_o2_q8 : o2 ≠ q8 := ne_N k27_o2 n8
  have e_q2_q8 : q2 ≠ q8 := ne_N k27_q2 n8
  have e_ha6_q8 : ha6 ≠ q8 := ne_N k27_ha6 n8
  have e_q3_q8 : q3 ≠ q8 := ne_N k27_q3 n8
  have e_g10_q8 : g10 ≠ q8 := ne_N k27_g10 n8
  have e_z10_q8 : z10 ≠ q8 := ne_N k27_z10 n8
  have e_o10_q8 : o10 ≠ q8 := ne_N k27_o10 n8
  have e_q4_q8 : q4 ≠ q8 := ne_N k27_q4 n8
  have e_g14_q8 : g14 ≠ q8 := ne_N k27_g14 n8
  have e_z14_q8 : z14 ≠ q8 := ne_N k27_z14 n8
  have e_o14_q8 : o14 ≠ q8 := ne_N k27_o14 n8
  have e_q5_q8 : q5 ≠ q8 := ne_N k27_q5 n8
  have e_pa18_q8 : pa18 ≠ q8 := ne_N k27_pa18 n8
  have e_q6_q8 : q6 ≠ q8 := ne_N k27_q6 n8
  have e_ma22_q8 : ma22 ≠ q8 := ne_N k27_ma22 n8
  have e_q7_q8 : q7 ≠ q8 := ne_N k27_q7 n8
  have e_x_q8 : x ≠ q8 := ne_N k27_x n8
  have k28_q1 := (pu_ne T27 (oO 1 [.null]) e_q1_q8).trans k27_q1
  have k28_z2 := (pu_ne T27 (oO 1 [.null]) e_z2_q8).trans k27_z2
  have k28_o2 := (pu_ne T27 (oO 1 [.null]) e_o2_q8).trans k27_o2
  have k28_q2 := (pu_ne T27 (oO 1 [.null]) e_q2_q8).trans k27_q2
  have k28_ha6 := (pu_ne T27 (oO 1 [.null]) e_ha6_q8).trans k27_ha6
  have k28_q3 := (pu_ne T27 (oO 1 [.null]) e_q3_q8).trans k27_q3
  have k28_g10 := (pu_ne T27 (oO 1 [.null]) e_g10_q8).trans k27_g10
  have k28_z10 := (pu_ne T27 (oO 1 [.null]) e_z10_q8).trans k27_z10
  have k28_o10 := (pu_ne T27 (oO 1 [.null]) e_o10_q8).trans k27_o10
  have k28_q4 := (pu_ne T27 (oO 1 [.null]) e_q4_q8).trans k27_q4
  have k28_g14 := (pu_ne T27 (oO 1 [.null]) e_g14_q8).trans k27_g14
  have k28_z14 := (pu_ne T27 (oO 1 [.null]) e_z14_q8).trans k27_z14
  have k28_o14 := (pu_ne T27 (oO 1 [.null]) e_o14_q8).trans k27_o14
  have k28_q5 := (pu_ne T27 (oO 1 [.null]) e_q5_q8).trans k27_q5
  have k28_pa18 := (pu_ne T27 (oO 1 [.null]) e_pa18_q8).trans k27_pa18
  have k28_q6 := (pu_ne T27 (oO 1 [.null]) e_q6_q8).trans k27_q6
  have k28_ma22 := (pu_ne T27 (oO 1 [.null]) e_ma22_q8).trans k27_ma22
  have k28_q7 := (pu_ne T27 (oO 1 [.null]) e_q7_q8).trans k27_q7
  have k28_x := (pu_ne T27 (oO 1 [.null]) e_x_q8).trans k27_x
  have k28_q8 := pu_self T27 q8 (oO 1 [.null])
  have bq8 := base_none fr27 k27_x n8
  have fr28 : ∀ a, S a ≠ none → a ≠ x → (pu T27 q8 (oO 1 [.null])) a = S a := fun a a1 a2 => (pu_ne _ _ (fun z9 => a1 (by rw [z9]; exact bq8))).trans (fr27 a a1 a2)
  refine J_dup (pc1 := 90) rfl dX9_init_89 rfl ?_
  refine J_aload_n (pc1 := 91) rfl (i := 0) rfl dX9_init_90 rfl ?_
  refine J_get (pc1 := 94) (j := 0) inUX9 (ci := 9) rfl (by decide) lf_X9_12 dX9_init_91 rfl k28_x rfl ?_
  refine J_callI_N (pc1 := 97) (As := [.ref q1]) (good_C lc_X1_init) yv_X1_init ln_X1 lm_X9_58 li_X1_init (c_X1_init k28_q8) dX9_init_94 rfl rfl rfl (by omega) (by decide) (by omega) (by omega) (Nat.le_of_ble_eq_true rfl) ?_
  rw [pu_pu]
  have k29_q1 := (pu_ne T27 (oO 1 [.ref q1]) e_q1_q8).trans k27_q1
  have k29_z2 := (pu_ne T27 (oO 1 [.ref q1]) e_z2_q8).trans k27_z2
  have k29_o2 := (pu_ne T27 (oO 1 [.ref q1]) e_o2_q8).trans k27_o2
  have k29_q2 := (pu_ne T27 (oO 1 [.ref q1]) e_q2_q8).trans k27_q2
  have k29_ha6 := (pu_ne T27 (oO 1 [.ref q1]) e_ha6_q8).trans k27_ha6
  have k29_q3 := (pu_ne T27 (oO 1 [.ref q1]) e_q3_q8).trans k27_q3
  have k29_g10 := (pu_ne T27 (oO 1 [.ref q1]) e_g10_q8).trans k27_g10
  have k29_z10 := (pu_ne T27 (oO 1 [.ref q1]) e_z10_q8).trans k27_z10
  have k29_o10 := (pu_ne T27 (oO 1 [.ref q1]) e_o10_q8).trans k27_o10
  have k29_q4 := (pu_ne T27 (oO 1 [.ref q1]) e_q4_q8).trans k27_q4
  have k29_g14 := (pu_ne T27 (oO 1 [.ref q1]) e_g14_q8).trans k27_g14
  have k29_z14 := (pu_ne T27 (oO 1 [.ref q1]) e_z14_q8).trans k27_z14
  have k29_o14 := (pu_ne T27 (oO 1 [.ref q1]) e_o14_q8).trans k27_o14
  have k29_q5 := (pu_ne T27 (oO 1 [.ref q1]) e_q5_q8).trans k27_q5
  have k29_pa18 := (pu_ne T27 (oO 1 [.ref q1]) e_pa18_q8).trans k27_pa18
  have k29_q6 := (pu_ne T27 (oO 1 [.ref q1]) e_q6_q8).trans k27_q6
  have k29_ma22 := (pu_ne T27 (oO 1 [.ref q1]) e_ma22_q8).trans k27_ma22
  have k29_q7 := (pu_ne T27 (oO 1 [.ref q1]) e_q7_q8).trans k27_q7
  have k29_x := (pu_ne T27 (oO 1 [.ref q1]) e_x_q8).trans k27_x
  have k29_q8 := pu_self T27 q8 (oO 1 [.ref q1])
  have fr29 : ∀ a, S a ≠ none → a ≠ x → (pu T27 q8 (oO 1 [.ref q1])) a = S a := fun a a1 a2 => (pu_ne _ _ (fun z9 => a1 (by rw [z9]; exact bq8))).trans (fr27 a a1 a2)
  generalize (pu T27 q8 (oO 1 [.ref q1])) = T29 at k29_q1 k29_z2 k29_o2 k29_q2 k29_ha6 k29_q3 k29_g10 k29_z10 k29_o10 k29_q4 k29_g14 k29_z14 k29_o14 k29_q5 k29_pa18 k29_q6 k29_ma22 k29_q7 k29_x k29_q8 fr29 ⊢
  refine J_putF (pc1 := 100) (ty := (.object "BorrowedHours$Foresight")) (j := 7) (fs1 := [.ref q1, .ref q2, .ref q3, .ref q4, .ref q5, .ref q6, .ref q7, .ref q8]) inUX9 (ci := 9) rfl (by decide) tyX9 tyX9_ok nmX9 rfl rfl rfl (by decide +kernel) lf_X9_59 dX9_init_97 rfl k29_x rfl (by rfl) (Nat.le_of_ble_eq_true rfl) rfl ?_
  have k30_q1 := (pu_ne T29 (oO 9 [.ref q1, .ref q2, .ref q3, .ref q4, .ref q5, .ref q6, .ref q7, .ref q8]) (ne_ci k29_q1 k29_x (by decide))).trans k29_q1
  have k30_z2 := (pu_ne T29 (oO 9 [.ref q1, .ref q2, .ref q3, .ref q4, .ref q5, .ref q6, .ref q7, .ref q8]) (ne_ci k29_z2 k29_x (by decide))).trans k29_z2
  have k30_o2 := (pu_ne T29 (oO 9 [.ref q1, .ref q2, .ref q3, .ref q4, .ref q5, .ref q6, .ref q7, .ref q8]) (ne_ci k29_o2 k29_x (by decide))).trans k29_o2
  have k30_q2 := (pu_ne T29 (oO 9 [.ref q1, .ref q2, .ref q3, .ref q4, .ref q5, .ref q6, .ref q7, .ref q8]) (ne_ci k29_q2 k29_x (by decide))).trans k29_q2
  have k30_ha6 := (pu_ne T29 (oO 9 [.ref q1, .ref q2, .ref q3, .ref q4, .ref q5, .ref q6, .ref q7, .ref q8]) (ne_QO k29_ha6 k29_x)).trans k29_ha6
  have k30_q3 := (pu_ne T29 (oO 9 [.ref q1, .ref q2, .ref q3, .ref q4, .ref q5, .ref q6, .ref q7, .ref q8]) (ne_ci k29_q3 k29_x (by decide))).trans k29_q3
  have k30_g10 := (pu_ne T29 (oO 9 [.ref q1, .ref q2, .ref q3, .ref q4, .ref q5, .ref q6, .ref q7, .ref q8]) (ne_ci k29_g10 k29_x (by decide))).trans k29_g10
  have k30_z10 := (pu_ne T29 (oO 9 [.ref q1, .ref q2, .ref q3, .ref q4, .ref q5, .ref q6, .ref q7, .ref q8]) (ne_ci k29_z10 k29_x (by decide))).trans k29_z10
  have k30_o10 := (pu_ne T29 (oO 9 [.ref q1, .ref q2, .ref q3, .ref q4, .ref q5, .ref q6, .ref q7, .ref q8]) (ne_ci k29_o10 k29_x (by decide))).trans k29_o10
  have k30_q4 := (pu_ne T29 (oO 9 [.ref q1, .ref q2, .ref q3, .ref q4, .ref q5, .ref q6, .ref q7, .ref q8]) (ne_ci k29_q4 k29_x (by decide))).trans k29_q4
  have k30_g14 := (pu_ne T29 (oO 9 [.ref q1, .ref q2, .ref q3, .ref q4, .ref q5, .ref q6, .ref q7, .ref q8]) (ne_ci k29_g14 k29_x (by decide))).trans k29_g14
  have k30_z14 := (pu_ne T29 (oO 9 [.ref q1, .ref q2, .ref q3, .ref q4, .ref q5, .ref q6, .ref q7, .ref q8]) (ne_ci k29_z14 k29_x (by decide))).trans k29_z14
  have k30_o14 := (pu_ne T29 (oO 9 [.ref q1, .ref q2, .ref q3, .ref q4, .ref q5, .ref q6, .ref q7, .ref q8]) (ne_ci k29_o14 k29_x (by decide))).trans k29_o14
  have k30_q5 := (pu_ne T29 (oO 9 [.ref q1, .ref q2, .ref q3, .ref q4, .ref q5, .ref q6, .ref q7, .ref q8]) (ne_ci k29_q5 k29_x (by decide))).trans k29_q5
  have k30_pa18 := (pu_ne T29 (oO 9 [.ref q1, .ref q2, .ref q3, .ref q4, .ref q5, .ref q6, .ref q7, .ref q8]) (ne_IO k29_pa18 k29_x)).trans k29_pa18
  have k30_q6 := (pu_ne T29 (oO 9 [.ref q1, .ref q2, .ref q3, .ref q4, .ref q5, .ref q6, .ref q7, .ref q8]) (ne_ci k29_q6 k29_x (by decide))).trans k29_q6
  have k30_ma22 := (pu_ne T29 (oO 9 [.ref q1, .ref q2, .ref q3, .ref q4, .ref q5, .ref q6, .ref q7, .ref q8]) (ne_QO k29_ma22 k29_x)).trans k29_ma22
  have k30_q7 := (pu_ne T29 (oO 9 [.ref q1, .ref q2, .ref q3, .ref q4, .ref q5, .ref q6, .ref q7, .ref q8]) (ne_ci k29_q7 k29_x (by decide))).trans k29_q7
  have k30_q8 := (pu_ne T29 (oO 9 [.ref q1, .ref q2, .ref q3, .ref q4, .ref q5, .ref q6, .ref q7, .ref q8]) (ne_ci k29_q8 k29_x (by decide))).trans k29_q8
  have k30_x := pu_self T29 x (oO 9 [.ref q1, .ref q2, .ref q3, .ref q4, .ref q5, .ref q6, .ref q7, .ref q8])
  have fr30 : ∀ a, S a ≠ none → a ≠ x → (pu T29 x (oO 9 [.ref q1, .ref q2, .ref q3, .ref q4, .ref q5, .ref q6, .ref q7, .ref q8])) a = S a := fun a a1 a2 => (pu_ne _ _ a2).trans (fr29 a a1 a2)
  generalize (pu T29 x (oO 9 [.ref q1, .ref q2, .ref q3, .ref q4, .ref q5, .ref q6, .ref q7, .ref q8])) = T30 at k30_q1 k30_z2 k30_o2 k30_q2 k30_ha6 k30_q3 k30_g10 k30_z10 k30_o10 k30_q4 k30_g14 k30_z14 k30_o14 k30_q5 k30_pa18 k30_q6 k30_ma22 k30_q7 k30_q8 k30_x fr30 ⊢
  exact J_vret rfl dX9_init_100 (by omega) (by omega) (⟨rfl, fun i => [x, q2, ha6, q3, q4, q5, pa18, q6, ma22, q7, q8].getD i 0, rfl, fun X H => ⟨fun i => [q1, g10, g14].getD i 0, fun i => [z2, z10, z14].getD i 0, fun i => [o2, o10, o14].getD i 0, fun _ => zeF, 0, fun _ => none, ⟨k30_x, ⟨k30_q2, ⟨st6, k30_ha6, fun i hi => absurd hi (Nat.not_lt_zero i), fun i _ hi => hs46 i (Nat.zero_le i) hi⟩, Nat.le_refl 0, Nat.zero_le 6⟩, FAM3 ⟨k30_q1, k30_z2, k30_o2, hG2.2.2.2⟩ ⟨k30_g10, k30_z10, k30_o10, hG10.2.2.2⟩ ⟨k30_g14, k30_z14, k30_o14, hG14.2.2.2⟩ ne_q1_g10 ne_q1_g14 ne_g10_g14 ne_z2_z10 ne_z2_z14 ne_z10_z14 ne_o2_o10 ne_o2_o14 ne_o10_o14 ne_z2_o10 ne_z2_o14 (Ne.symm ne_o2_z10) ne_z10_o14 (Ne.symm ne_o2_z14) (Ne.symm ne_o10_z14), k30_q3, k30_q4, e_q3_q4, ⟨k30_q5, k30_pa18, Nat.zero_le _, hP18.2.2.2⟩, ⟨k30_q6, k30_ma22, fun _ _ _ _ _ _ z => by cases z⟩, k30_q7, k30_q8⟩, rfl, rfl, rfl, fun i hi => absurd hi (Nat.not_lt_zero i)⟩, bpa18, fr30⟩)
