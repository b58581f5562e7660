/-! 27.mtimes: the reference's table of times -/
theorem FC_m {E ln ps tn : Int} {j k : Nat} (h : j ≤ k) {p hh one ot fi : Int} (q : FC E ln ps tn j p hh one ot fi) : FC E ln ps tn k p hh one ot fi := fc_mono h q
theorem FC_t {E ln ps tn : Int} (hE : 1 ≤ E) {k : Nat} {p h one ot fi : Int} (hh : h = E ∨ h = -E) (q : FC E ln ps tn (k + 1) p h one ot fi) : FC E ln ps tn 0 p h one ot fi := by
  unfold FC at q ⊢
  have hT : cdT E p h = 0 ∨ cdT E p h = 2 * E := by unfold cdT; split <;> omega
  show cdT E p h ≤ 0
  have q' : stP E tn ps (fc E tn ps k) (cdT E p h) (cdO ln p one ot) (cdO ln p ot one) (cdB p fi) := q
  unfold stP at q'
  rcases q' with z | z
  · exact z
  · omega
/-- of j rounds up to k the table knows all -/
def tR (E ln ps tn ks : Int) (k : Nat) (g : Int → Int) : Prop := ∀ p h one ot fi, vC E ln ps ks p h one ot fi → ∀ j : Nat, j ≤ k → (g (atF p h one ot fi) < (j : Int) + 1 ↔ FC E ln ps tn j p h one ot fi)
def rG (m : Int) (g : Int → Int) : Prop := ∀ x, 0 ≤ x → x < 20412 → 0 ≤ g x ∧ (g x ≤ m ∨ g x = 99)
def RS (E ln ps tn ks : Int) (k : Nat) (g : Int → Int) : Prop := rG k g ∧ tR E ln ps tn ks k g
def RI (E ln ps tn ks : Int) (k : Nat) (g : Int → Int) : Prop := rG ((k : Int) + 1) g ∧ tR E ln ps tn ks k g ∧ ∀ p h one ot fi, vC E ln ps ks p h one ot fi → g (atF p h one ot fi) < (k : Int) + 2 → FC E ln ps tn (k + 1) p h one ot fi
theorem RS_RI {E ln ps tn ks : Int} (R : okR E ln ps tn ks) {k : Nat} (hk : k ≤ 7) {g : Int → Int} (h : RS E ln ps tn ks k g) : RI E ln ps tn ks k g := by
  refine ⟨fun x x0 x1 => ?_, h.2, fun p hh one ot fi v q => ?_⟩
  · have := h.1 x x0 x1
    omega
  · have hr := vC_r R v
    have := h.1 _ hr.1 hr.2
    exact FC_m (Nat.le_succ k) ((h.2 _ _ _ _ _ v k (Nat.le_refl _)).mp (by omega))
theorem RI_tK {E ln ps tn ks : Int} {k : Nat} {g : Int → Int} (h : RI E ln ps tn ks k g) : tK E ln ps tn ks k g := fun p hh one ot fi v => h.2.1 p hh one ot fi v k (Nat.le_refl _)
theorem RI_hv {E ln ps tn ks : Int} {k : Nat} (hk : k ≤ 7) {g : Int → Int} (h : RI E ln ps tn ks k g) : ∀ x, 0 ≤ x → x < 20412 → 0 ≤ g x ∧ g x ≤ 99 := fun x x0 x1 => by
  have := h.1 x x0 x1
  omega
/-- one state is worked out -/
theorem RI_s {E ln ps tn ks : Int} (R : okR E ln ps tn ks) {k : Nat} (hk : k ≤ 7) {g g' : Int → Int} {p h one ot fi : Int} (v : vC E ln ps ks p h one ot fi) (hg : RI E ln ps tn ks k g)
    (e : ((k : Int) + 1 < g (atF p h one ot fi) ∧ FC E ln ps tn (k + 1) p h one ot fi ∧ g' = uZ g (atF p h one ot fi) ((k : Int) + 1)) ∨ (¬ ((k : Int) + 1 < g (atF p h one ot fi) ∧ FC E ln ps tn (k + 1) p h one ot fi) ∧ g' = g)) :
    RI E ln ps tn ks k g' ∧ (FC E ln ps tn (k + 1) p h one ot fi → g' (atF p h one ot fi) < (k : Int) + 2) ∧ ∀ x, g' x ≤ g x := by
  obtain ⟨w1, w2, w3⟩ := vC_w R v
  rcases e with ⟨e1, e2, rfl⟩ | ⟨e1, rfl⟩
  · refine ⟨⟨fun x x0 x1 => ?_, fun p' h' one' ot' fi' v' j hj => ?_, fun p' h' one' ot' fi' v' q => ?_⟩, fun _ => by rw [uZ_e]; omega, fun x => ?_⟩
    · by_cases hx : x = atF p h one ot fi
      · rw [hx, uZ_e]
        omega
      · rw [uZ_n hx]
        exact hg.1 x x0 x1
    · obtain ⟨y1, y2, y3⟩ := vC_w R v'
      by_cases hx : atF p' h' one' ot' fi' = atF p h one ot fi
      · obtain ⟨rfl, rfl, rfl, rfl, rfl⟩ := atF_in v'.1 y1 y2 y3 v'.2.1 v.1 w1 w2 w3 v.2.1 hx
        rw [uZ_e]
        have := hg.2.1 _ _ _ _ _ v' j hj
        exact ⟨fun z => by omega, fun z => by have := this.mpr z; omega⟩
      · rw [uZ_n hx]
        exact hg.2.1 _ _ _ _ _ v' j hj
    · obtain ⟨y1, y2, y3⟩ := vC_w R v'
      by_cases hx : atF p' h' one' ot' fi' = atF p h one ot fi
      · obtain ⟨rfl, rfl, rfl, rfl, rfl⟩ := atF_in v'.1 y1 y2 y3 v'.2.1 v.1 w1 w2 w3 v.2.1 hx
        exact e2
      · rw [uZ_n hx] at q
        exact hg.2.2 _ _ _ _ _ v' q
    · by_cases hx : x = atF p h one ot fi
      · rw [hx, uZ_e]
        omega
      · rw [uZ_n hx]
        exact Int.le_refl _
  · exact ⟨hg, fun z => by
      have : ¬ (k : Int) + 1 < g' (atF p h one ot fi) := fun q => e1 ⟨q, z⟩
      omega, fun x => Int.le_refl _⟩
theorem RI_RS {E ln ps tn ks : Int} (R : okR E ln ps tn ks) {k : Nat} (hk : k ≤ 7) {g : Int → Int} (h : RI E ln ps tn ks k g) (D : ∀ p hh one ot fi, vC E ln ps ks p hh one ot fi → (-E < hh ∧ hh < E) → FC E ln ps tn (k + 1) p hh one ot fi → g (atF p hh one ot fi) < (k : Int) + 2) : RS E ln ps tn ks (k + 1) g := by
  refine ⟨fun x x0 x1 => ?_, fun p hh one ot fi v j hj => ?_⟩
  · have := h.1 x x0 x1
    omega
  · by_cases e : j ≤ k
    · exact h.2.1 _ _ _ _ _ v j e
    · have e2 : j = k + 1 := by omega
      subst e2
      refine ⟨fun q => h.2.2 _ _ _ _ _ v (by omega), fun q => ?_⟩
      by_cases e3 : -E < hh ∧ hh < E
      · have := D _ _ _ _ _ v e3 q
        omega
      · have v3 := v.2.2.1
        have r1 := R.1
        have := (h.2.1 _ _ _ _ _ v 0 (Nat.zero_le _)).mpr (FC_t r1.1 (by omega) q)
        omega
theorem RS_0 {E ln ps tn ks : Int} (R : okR E ln ps tn ks) {g : Int → Int} (h : ∀ x, 0 ≤ x → x < 20412 → g x = if wiE E (x / 1458 % 7 - 3) = x / 10206 then 0 else 99) : RS E ln ps tn ks 0 g := by
  refine ⟨fun x x0 x1 => ?_, fun p hh one ot fi v j hj => ?_⟩
  · rw [h x x0 x1]
    split <;> omega
  · have e0 : j = 0 := by omega
    subst e0
    have hr := vC_r R v
    obtain ⟨w1, w2, w3⟩ := vC_w R v
    have v1 := v.1
    have v2 := v.2.1
    have r1 := R.1
    have e1 : atF p hh one ot fi / 10206 = p := by unfold atF; omega
    have e2 : atF p hh one ot fi / 1458 % 7 - 3 = hh := by unfold atF; omega
    rw [h _ hr.1 hr.2, e1, e2]
    show _ ↔ cdT E p hh ≤ 0
    have v3 := v.2.2.1
    unfold wiE cdT
    rcases v1 with rfl | rfl
    · (repeat' split) <;> omega
    · (repeat' split) <;> omega
theorem RS_T {E ln ps tn ks : Int} (R : okR E ln ps tn ks) {g : Int → Int} (h : RS E ln ps tn ks 8 g) : TOK E ln ps tn ks g := by
  intro p hh one ot fi hp hf h1 h2 h3 h4 h5
  have v : vC E ln ps ks p hh one ot fi := ⟨hp, hf, h1, h2, h3, h4, h5⟩
  have hr := vC_r R v
  have hg := h.1 _ hr.1 hr.2
  have hj : ∀ j : Nat, j ≤ 8 → (g (atF p hh one ot fi) < (j : Int) + 1 ↔ tT E tn ps (cdT E p hh) (cdO ln p one ot) (cdO ln p ot one) (cdB p fi) ≤ j) := fun j hj => (h.2 _ _ _ _ _ v j hj).trans (tT_le E tn ps _ _ _ _ hj).symm
  have hb := tT_b E tn ps (cdT E p hh) (cdO ln p one ot) (cdO ln p ot one) (cdB p fi)
  show _ = rvT (tT E tn ps (cdT E p hh) (cdO ln p one ot) (cdO ln p ot one) (cdB p fi))
  generalize tT E tn ps (cdT E p hh) (cdO ln p one ot) (cdO ln p ot one) (cdB p fi) = t at hj hb ⊢
  unfold rvT
  have j8 := hj 8 (Nat.le_refl _)
  split
  · next q =>
    have ja := hj t.toNat (by omega)
    have jg := hj (g (atF p hh one ot fi)).toNat (by omega)
    omega
  · omega
set_option maxHeartbeats 2000000 in
set_option maxRecDepth 20000 in
theorem wo_s {S : pS} {B : Nat → Nat} {f hs sl sv ti tx to : Int → Int} {n ik kr ks L sp nu rd : Int} (W : MW S B f hs sl sv ti tx to n ik kr ks L sp nu rd) {K : Option Value → pS → Prop} {one ot sm kk : Int} {k : Nat} (R : okR (f 0) (f 1) (f 2) (f 3) sm) (hk : k ≤ 7) (hI : RI (f 0) (f 1) (f 2) (f 3) sm k ti) (k0 : 0 ≤ kk) (k1 : kk < 4 * (2 * f 0 - 1)) (v : vC (f 0) (f 1) (f 2) sm (kk / 2 % 2) (kk / 4 - f 0 + 1) one ot (kk % 2)) (k9 : ∀ T g, MW T B f hs sl sv g tx to n ik kr ks L sp nu rd → frM S T B → (((k : Int) + 1 < ti (atF (kk / 2 % 2) (kk / 4 - f 0 + 1) one ot (kk % 2)) ∧ FC (f 0) (f 1) (f 2) (f 3) (k + 1) (kk / 2 % 2) (kk / 4 - f 0 + 1) one ot (kk % 2) ∧ g = uZ ti (atF (kk / 2 % 2) (kk / 4 - f 0 + 1) one ot (kk % 2)) ((k : Int) + 1)) ∨ (¬ ((k : Int) + 1 < ti (atF (kk / 2 % 2) (kk / 4 - f 0 + 1) one ot (kk % 2)) ∧ FC (f 0) (f 1) (f 2) (f 3) (k + 1) (kk / 2 % 2) (kk / 4 - f 0 + 1) one ot (kk % 2)) ∧ g = ti)) → Jd yX10_worksOut cX10_worksOut 9 none 3 0 0 K 0 0 T 3 [some (.ref (B 0)), some (.int (iI one)), some (.int (iI ot)), some (.int (iI ((k : Int) + 1))), some (.int (iI (kk + 1))), none, none, none, none] []) : Jd yX10_worksOut cX10_worksOut 9 none 3 0 0 K 0 0 S 3 [some (.ref (B 0)), some (.int (iI one)), some (.int (iI ot)), some (.int (iI ((k : Int) + 1))), some (.int (iI kk)), none, none, none, none] [] := by
  have r1 := R.1
  have hr := vC_r R v
  have hv := RI_hv hk hI
  have hvz := hv _ hr.1 hr.2
  have hh : -f 0 < (kk / 4 - f 0 + 1) ∧ (kk / 4 - f 0 + 1) < f 0 := by omega
  refine J_iload (pc1 := 5) rfl dX10_worksOut_3 rfl ?_
  refine J_iconst (pc1 := 6) dX10_worksOut_5 rfl ?_
  refine J_iconst (pc1 := 7) dX10_worksOut_6 rfl ?_
  refine J_aload_n (pc1 := 8) rfl (i := 0) rfl dX10_worksOut_7 rfl ?_
  refine J_get (pc1 := 11) (j := 0) inUX10 (ci := 10) rfl (by decide) lf_X10_7 dX10_worksOut_8 rfl W.1 rfl ?_
  refine J_iconst (pc1 := 12) dX10_worksOut_11 rfl ?_
  refine J_iald (pc1 := 13) dX10_worksOut_12 rfl W.2.1 (by omega) (by omega) (by omega) ?_
  refine J_imul (pc1 := 14) dX10_worksOut_13 rfl ?_
  refine J_iconst (pc1 := 15) dX10_worksOut_14 rfl ?_
  refine J_isub (pc1 := 16) dX10_worksOut_15 rfl ?_
  refine J_imul (pc1 := 17) dX10_worksOut_16 rfl ?_
  refine J_icmp_ge (pc1 := 20) (tgt := 103) (by omega) (by omega) (by omega) (by omega) dX10_worksOut_17 rfl rfl (fun hc1 => ?_) (fun hc1 => ?_)
  · exact absurd hc1 (by omega)
  · refine J_iload (pc1 := 22) rfl dX10_worksOut_20 rfl ?_
    refine J_iconst (pc1 := 23) dX10_worksOut_22 rfl ?_
    refine J_idiv (pc1 := 24) (by omega) (by omega) (by omega) (by omega) dX10_worksOut_23 rfl ?_
    refine J_aload_n (pc1 := 25) rfl (i := 0) rfl dX10_worksOut_24 rfl ?_
    refine J_get (pc1 := 28) (j := 0) inUX10 (ci := 10) rfl (by decide) lf_X10_7 dX10_worksOut_25 rfl W.1 rfl ?_
    refine J_iconst (pc1 := 29) dX10_worksOut_28 rfl ?_
    refine J_iald (pc1 := 30) dX10_worksOut_29 rfl W.2.1 (by omega) (by omega) (by omega) ?_
    refine J_isub (pc1 := 31) dX10_worksOut_30 rfl ?_
    refine J_iconst (pc1 := 32) dX10_worksOut_31 rfl ?_
    refine J_iadd (pc1 := 33) dX10_worksOut_32 rfl ?_
    refine J_istore (pc1 := 35) (L1 := [some (.ref (B 0)), some (.int (iI one)), some (.int (iI ot)), some (.int (iI ((k : Int) + 1))), some (.int (iI kk)), some (.int (iI (((kk / 4) - (f 0)) + 1))), none, none, none]) dX10_worksOut_33 rfl (by decide) rfl rfl ?_
    refine J_iload (pc1 := 37) rfl dX10_worksOut_35 rfl ?_
    refine J_iconst (pc1 := 38) dX10_worksOut_37 rfl ?_
    refine J_idiv (pc1 := 39) (by omega) (by omega) (by omega) (by omega) dX10_worksOut_38 rfl ?_
    refine J_iconst (pc1 := 40) dX10_worksOut_39 rfl ?_
    refine J_irem (pc1 := 41) (by omega) (by omega) (by omega) (by omega) dX10_worksOut_40 rfl ?_
    refine J_istore (pc1 := 43) (L1 := [some (.ref (B 0)), some (.int (iI one)), some (.int (iI ot)), some (.int (iI ((k : Int) + 1))), some (.int (iI kk)), some (.int (iI (((kk / 4) - (f 0)) + 1))), some (.int (iI ((kk / 2) % 2))), none, none]) dX10_worksOut_41 rfl (by decide) rfl rfl ?_
    refine J_iload (pc1 := 45) rfl dX10_worksOut_43 rfl ?_
    refine J_iconst (pc1 := 46) dX10_worksOut_45 rfl ?_
    refine J_irem (pc1 := 47) (by omega) (by omega) (by omega) (by omega) dX10_worksOut_46 rfl ?_
    refine J_istore (pc1 := 49) (L1 := [some (.ref (B 0)), some (.int (iI one)), some (.int (iI ot)), some (.int (iI ((k : Int) + 1))), some (.int (iI kk)), some (.int (iI (((kk / 4) - (f 0)) + 1))), some (.int (iI ((kk / 2) % 2))), some (.int (iI (kk % 2))), none]) dX10_worksOut_47 rfl (by decide) rfl rfl ?_
    refine J_iload (pc1 := 51) rfl dX10_worksOut_49 rfl ?_
    refine J_iload (pc1 := 53) rfl dX10_worksOut_51 rfl ?_
    refine J_iload_n (pc1 := 54) rfl (i := 1) rfl dX10_worksOut_53 rfl ?_
    refine J_iload_n (pc1 := 55) rfl (i := 2) rfl dX10_worksOut_54 rfl ?_
    refine J_iload (pc1 := 57) rfl dX10_worksOut_55 rfl ?_
    refine J_callSI (pc1 := 60) (As := [.int (iI ((kk / 2) % 2)), .int (iI (((kk / 4) - (f 0)) + 1)), .int (iI one), .int (iI ot), .int (iI (kk % 2))]) gs_X10_53 yv_X10_at (c_X10_at) dX10_worksOut_57 rfl rfl rfl (by omega) (by decide) (by omega) (by omega) (Nat.le_of_ble_eq_true rfl) ?_
    refine J_istore (pc1 := 62) (L1 := [some (.ref (B 0)), some (.int (iI one)), some (.int (iI ot)), some (.int (iI ((k : Int) + 1))), some (.int (iI kk)), some (.int (iI (((kk / 4) - (f 0)) + 1))), some (.int (iI ((kk / 2) % 2))), some (.int (iI (kk % 2))), some (.int (iI (atF ((kk / 2) % 2) (((kk / 4) - (f 0)) + 1) one ot (kk % 2))))]) dX10_worksOut_60 rfl (by decide) rfl rfl ?_
    refine J_aload_n (pc1 := 63) rfl (i := 0) rfl dX10_worksOut_62 rfl ?_
    refine J_get (pc1 := 66) (j := 5) inUX10 (ci := 10) rfl (by decide) lf_X10_22 dX10_worksOut_63 rfl W.1 rfl ?_
    refine J_iload (pc1 := 68) rfl dX10_worksOut_66 rfl ?_
    refine J_iald (pc1 := 69) dX10_worksOut_68 rfl W.2.2.2.2.2.1 (by omega) (by omega) (by omega) ?_
    refine J_iload_n (pc1 := 70) rfl (i := 3) rfl dX10_worksOut_69 rfl ?_
    refine J_icmp_le (pc1 := 73) (tgt := 97) (by omega) (by omega) (by omega) (by omega) dX10_worksOut_70 rfl rfl (fun hc2 => ?_) (fun hc2 => ?_)
    · refine J_iinc (pc1 := 100) (L1 := [some (.ref (B 0)), some (.int (iI one)), some (.int (iI ot)), some (.int (iI ((k : Int) + 1))), some (.int (iI (kk + 1))), some (.int (iI (((kk / 4) - (f 0)) + 1))), some (.int (iI ((kk / 2) % 2))), some (.int (iI (kk % 2))), some (.int (iI (atF ((kk / 2) % 2) (((kk / 4) - (f 0)) + 1) one ot (kk % 2))))]) dX10_worksOut_97 rfl rfl (by decide) rfl rfl ?_
      refine J_goto (tgt := 3) dX10_worksOut_100 rfl ?_
      refine J_sub (L1 := [some (.ref (B 0)), some (.int (iI one)), some (.int (iI ot)), some (.int (iI ((k : Int) + 1))), some (.int (iI (kk + 1))), none, none, none, none]) ⟨rfl, rfl, rfl, rfl, rfl, trivial⟩ ?_
      exact k9 _ ti ⟨W.1, W.2.1, W.2.2.1, W.2.2.2.1, W.2.2.2.2.1, W.2.2.2.2.2.1, W.2.2.2.2.2.2.1, W.2.2.2.2.2.2.2⟩ (frM.rf) (Or.inr ⟨fun z => by first | exact absurd z.1 (by omega) | exact bC_0 (by assumption) z.2, rfl⟩)
    · refine J_aload_n (pc1 := 74) rfl (i := 0) rfl dX10_worksOut_73 rfl ?_
      refine J_iload (pc1 := 76) rfl dX10_worksOut_74 rfl ?_
      refine J_iload (pc1 := 78) rfl dX10_worksOut_76 rfl ?_
      refine J_iload_n (pc1 := 79) rfl (i := 1) rfl dX10_worksOut_78 rfl ?_
      refine J_iload_n (pc1 := 80) rfl (i := 2) rfl dX10_worksOut_79 rfl ?_
      refine J_iload (pc1 := 82) rfl dX10_worksOut_80 rfl ?_
      refine J_iload_n (pc1 := 83) rfl (i := 3) rfl dX10_worksOut_82 rfl ?_
      refine J_callVI (pc1 := 86) (As := [.int (iI ((kk / 2) % 2)), .int (iI (((kk / 4) - (f 0)) + 1)), .int (iI one), .int (iI ot), .int (iI (kk % 2)), .int (iI ((k : Int) + 1))]) gv_X10_61 yv_X10_canForce rfl (c_X10_canForce ⟨W.1, W.2.1, W.2.2.1, W.2.2.2.1, W.2.2.2.2.1, W.2.2.2.2.2.1, W.2.2.2.2.2.2.1, W.2.2.2.2.2.2.2⟩ R v hh (by omega) (RI_tK hI) hv) dX10_worksOut_83 rfl W.1 rfl rfl (by omega) (by decide) (by omega) (by omega) (Nat.le_of_ble_eq_true rfl) ?_
      refine J_if_eq (pc1 := 89) (tgt := 97) (bC_lo _) (bC_hi _) dX10_worksOut_86 rfl rfl (fun hc3 => ?_) (fun hc3 => ?_)
      · refine J_iinc (pc1 := 100) (L1 := [some (.ref (B 0)), some (.int (iI one)), some (.int (iI ot)), some (.int (iI ((k : Int) + 1))), some (.int (iI (kk + 1))), some (.int (iI (((kk / 4) - (f 0)) + 1))), some (.int (iI ((kk / 2) % 2))), some (.int (iI (kk % 2))), some (.int (iI (atF ((kk / 2) % 2) (((kk / 4) - (f 0)) + 1) one ot (kk % 2))))]) dX10_worksOut_97 rfl rfl (by decide) rfl rfl ?_
        refine J_goto (tgt := 3) dX10_worksOut_100 rfl ?_
        refine J_sub (L1 := [some (.ref (B 0)), some (.int (iI one)), some (.int (iI ot)), some (.int (iI ((k : Int) + 1))), some (.int (iI (kk + 1))), none, none, none, none]) ⟨rfl, rfl, rfl, rfl, rfl, trivial⟩ ?_
        exact k9 _ ti ⟨W.1, W.2.1, W.2.2.1, W.2.2.2.1, W.2.2.2.2.1, W.2.2.2.2.2.1, W.2.2.2.2.2.2.1, W.2.2.2.2.2.2.2⟩ (frM.rf) (Or.inr ⟨fun z => by first | exact absurd z.1 (by omega) | exact bC_0 (by assumption) z.2, rfl⟩)
      · refine J_aload_n (pc1 := 90) rfl (i := 0) rfl dX10_worksOut_89 rfl ?_
        refine J_get (pc1 := 93) (j := 5) inUX10 (ci := 10) rfl (by decide) lf_X10_22 dX10_worksOut_90 rfl W.1 rfl ?_
        refine J_iload (pc1 := 95) rfl dX10_worksOut_93 rfl ?_
        refine J_iload_n (pc1 := 96) rfl (i := 3) rfl dX10_worksOut_95 rfl ?_
        refine J_iast (pc1 := 97) dX10_worksOut_96 rfl W.2.2.2.2.2.1 (by omega) (by omega) (by omega) ?_
        refine J_iinc (pc1 := 100) (L1 := [some (.ref (B 0)), some (.int (iI one)), some (.int (iI ot)), some (.int (iI ((k : Int) + 1))), some (.int (iI (kk + 1))), some (.int (iI (((kk / 4) - (f 0)) + 1))), some (.int (iI ((kk / 2) % 2))), some (.int (iI (kk % 2))), some (.int (iI (atF ((kk / 2) % 2) (((kk / 4) - (f 0)) + 1) one ot (kk % 2))))]) dX10_worksOut_97 rfl rfl (by decide) rfl rfl ?_
        refine J_goto (tgt := 3) dX10_worksOut_100 rfl ?_
        refine J_sub (L1 := [some (.ref (B 0)), some (.int (iI one)), some (.int (iI ot)), some (.int (iI ((k : Int) + 1))), some (.int (iI (kk + 1))), none, none, none, none]) ⟨rfl, rfl, rfl, rfl, rfl, trivial⟩ ?_
        exact k9 _ (uZ ti (atF ((kk / 2) % 2) (((kk / 4) - (f 0)) + 1) one ot (kk % 2)) ((k : Int) + 1)) ⟨((pu_ne _ _ (ne_OI W.1 W.2.2.2.2.2.1)).trans W.1), ((pu_ne _ _ (ne_II W.2.1 W.2.2.2.2.2.1 (by decide))).trans W.2.1), ((pu_ne _ _ (ne_II W.2.2.1 W.2.2.2.2.2.1 (by decide))).trans W.2.2.1), ((pu_ne _ _ (ne_II W.2.2.2.1 W.2.2.2.2.2.1 (by decide))).trans W.2.2.2.1), ((pu_ne _ _ (ne_II W.2.2.2.2.1 W.2.2.2.2.2.1 (by decide))).trans W.2.2.2.2.1), (pu_self _ _ _), ((pu_ne _ _ (ne_II W.2.2.2.2.2.2.1 W.2.2.2.2.2.1 (by decide))).trans W.2.2.2.2.2.2.1), ((pu_ne _ _ (ne_II W.2.2.2.2.2.2.2 W.2.2.2.2.2.1 (by decide))).trans W.2.2.2.2.2.2.2)⟩ (fun x h0 h1 h2 h3 h4 h5 h6 h7 => (pu_ne _ _ h5)) (Or.inl ⟨by omega, bC_1 (by assumption), rfl⟩)
set_option maxHeartbeats 1000000 in
set_option maxRecDepth 20000 in
theorem wo_x {S : pS} {B : Nat → Nat} {f hs sl sv ti tx to : Int → Int} {n ik kr ks L sp nu rd : Int} (W : MW S B f hs sl sv ti tx to n ik kr ks L sp nu rd) {K : Option Value → pS → Prop} {one ot kk : Int} {k : Nat} (r1 : 1 ≤ f 0 ∧ f 0 ≤ 3) (k1 : kk = 4 * (2 * f 0 - 1)) (hK : K none S)  : Jd yX10_worksOut cX10_worksOut 9 none 3 0 0 K 0 0 S 3 [some (.ref (B 0)), some (.int (iI one)), some (.int (iI ot)), some (.int (iI ((k : Int) + 1))), some (.int (iI kk)), none, none, none, none] [] := by
  show Jd yX10_worksOut cX10_worksOut 9 none 3 0 0 K 0 0 S 3 [some (.ref (B 0)), some (.int (iI one)), some (.int (iI ot)), some (.int (iI ((k : Int) + 1))), some (.int (iI kk)), none, none, none, none] []
  refine J_iload (pc1 := 5) rfl dX10_worksOut_3 rfl ?_
  refine J_iconst (pc1 := 6) dX10_worksOut_5 rfl ?_
  refine J_iconst (pc1 := 7) dX10_worksOut_6 rfl ?_
  refine J_aload_n (pc1 := 8) rfl (i := 0) rfl dX10_worksOut_7 rfl ?_
  refine J_get (pc1 := 11) (j := 0) inUX10 (ci := 10) rfl (by decide) lf_X10_7 dX10_worksOut_8 rfl W.1 rfl ?_
  refine J_iconst (pc1 := 12) dX10_worksOut_11 rfl ?_
  refine J_iald (pc1 := 13) dX10_worksOut_12 rfl W.2.1 (by omega) (by omega) (by omega) ?_
  refine J_imul (pc1 := 14) dX10_worksOut_13 rfl ?_
  refine J_iconst (pc1 := 15) dX10_worksOut_14 rfl ?_
  refine J_isub (pc1 := 16) dX10_worksOut_15 rfl ?_
  refine J_imul (pc1 := 17) dX10_worksOut_16 rfl ?_
  refine J_icmp_ge (pc1 := 20) (tgt := 103) (by omega) (by omega) (by omega) (by omega) dX10_worksOut_17 rfl rfl (fun hc1 => ?_) (fun hc1 => ?_)
  · exact J_vret rfl dX10_worksOut_103 (Nat.le_refl _) (Nat.le_refl _) (hK)
  · exact absurd hc1 (by omega)
theorem vC_i {E ln ps ks one ot kk : Int} (h0 : 0 ≤ kk) (h1 : kk < 4 * (2 * E - 1)) (hc : -ln ≤ one ∧ -ln ≤ ot ∧ (ps = 0 → one + ot = ks) ∧ (ps = 1 → one ≤ 6 ∧ ot ≤ 6)) : vC E ln ps ks (kk / 2 % 2) (kk / 4 - E + 1) one ot (kk % 2) :=
  ⟨by omega, by omega, by omega, hc.1, hc.2.1, hc.2.2.1, hc.2.2.2⟩
theorem wo_l {B : Nat → Nat} {f hs sl sv tx to : Int → Int} {n ik kr ks L sp nu rd one ot sm : Int} {k : Nat} {K : Option Value → pS → Prop} (R : okR (f 0) (f 1) (f 2) (f 3) sm) (hk : k ≤ 7) (hc : -f 1 ≤ one ∧ -f 1 ≤ ot ∧ (f 2 = 0 → one + ot = sm) ∧ (f 2 = 1 → one ≤ 6 ∧ ot ≤ 6)) : ∀ (m : Nat) {S : pS} {ti : Int → Int} (W : MW S B f hs sl sv ti tx to n ik kr ks L sp nu rd) {kk : Int}, 0 ≤ kk → kk + m = 4 * (2 * f 0 - 1) → RI (f 0) (f 1) (f 2) (f 3) sm k ti → (∀ i : Int, 0 ≤ i → i < kk → FC (f 0) (f 1) (f 2) (f 3) (k + 1) (i / 2 % 2) (i / 4 - f 0 + 1) one ot (i % 2) → ti (atF (i / 2 % 2) (i / 4 - f 0 + 1) one ot (i % 2)) < (k : Int) + 2) →
    (∀ T g, MW T B f hs sl sv g tx to n ik kr ks L sp nu rd → frM S T B → RI (f 0) (f 1) (f 2) (f 3) sm k g → (∀ i : Int, 0 ≤ i → i < 4 * (2 * f 0 - 1) → FC (f 0) (f 1) (f 2) (f 3) (k + 1) (i / 2 % 2) (i / 4 - f 0 + 1) one ot (i % 2) → g (atF (i / 2 % 2) (i / 4 - f 0 + 1) one ot (i % 2)) < (k : Int) + 2) → (∀ x, g x ≤ ti x) → K none T) → Jd yX10_worksOut cX10_worksOut 9 none 3 0 0 K 0 0 S 3 [some (.ref (B 0)), some (.int (iI one)), some (.int (iI ot)), some (.int (iI ((k : Int) + 1))), some (.int (iI kk)), none, none, none, none] [] := by
  intro m
  induction m with
  | zero =>
    intro S ti W kk h0 h1 hI hD hK
    exact wo_x W R.1 (by omega) (hK S ti W frM.rf hI (fun i i0 i1 => hD i i0 (by omega)) (fun x => Int.le_refl _))
  | succ m ih =>
    intro S ti W kk h0 h1 hI hD hK
    have v := vC_i h0 (show kk < 4 * (2 * f 0 - 1) by omega) hc
    refine wo_s W R hk hI h0 (by omega) v (fun T1 g1 W1 r1 e1 => ?_)
    obtain ⟨s1, s2, s3⟩ := RI_s R hk v hI e1
    refine ih W1 (by omega) (by omega) s1 (fun i i0 i1 q => ?_) (fun T2 g2 W2 r2 I2 D2 l2 => hK T2 g2 W2 (frM.tr r1 r2) I2 D2 (fun x => Int.le_trans (l2 x) (s3 x)))
    by_cases e : i = kk
    · rw [e] at q ⊢
      exact s2 q
    · exact Int.lt_of_le_of_lt (s3 _) (hD i i0 (by omega) q)
theorem c_X10_worksOut {B : Nat → Nat} {f hs sl sv tx to : Int → Int} {n ik kr ks L sp nu rd one ot sm : Int} {k : Nat} {S : pS} {ti : Int → Int} (W : MW S B f hs sl sv ti tx to n ik kr ks L sp nu rd) (R : okR (f 0) (f 1) (f 2) (f 3) sm) (hk : k ≤ 7) (hc : -f 1 ≤ one ∧ -f 1 ≤ ot ∧ (f 2 = 0 → one + ot = sm) ∧ (f 2 = 1 → one ≤ 6 ∧ ot ≤ 6)) (hI : RI (f 0) (f 1) (f 2) (f 3) sm k ti) : Ct yX10_worksOut cX10_worksOut 9 none 3 0 0 [.ref (B 0), .int (iI one), .int (iI ot), .int (iI ((k : Int) + 1))] S (kNS (fun T => ∃ g, MW T B f hs sl sv g tx to n ik kr ks L sp nu rd ∧ frM S T B ∧ RI (f 0) (f 1) (f 2) (f 3) sm k g ∧ (∀ p h fi : Int, vC (f 0) (f 1) (f 2) sm p h one ot fi → (-f 0 < h ∧ h < f 0) → FC (f 0) (f 1) (f 2) (f 3) (k + 1) p h one ot fi → g (atF p h one ot fi) < (k : Int) + 2) ∧ ∀ x, g x ≤ ti x)) := by
  refine Ct.ofJ (by decide +kernel) (Nat.le_of_ble_eq_true rfl) ?_
  refine J_L (L1 := [some (.ref (B 0)), some (.int (iI one)), some (.int (iI ot)), some (.int (iI ((k : Int) + 1))), none, none, none, none, none]) rfl ?_
  have r1 := R.1
  refine J_iconst (pc1 := 1) dX10_worksOut_0 rfl ?_
  refine J_istore (pc1 := 3) (L1 := [some (.ref (B 0)), some (.int (iI one)), some (.int (iI ot)), some (.int (iI ((k : Int) + 1))), some (.int (iI 0)), none, none, none, none]) dX10_worksOut_1 rfl (by decide) rfl rfl ?_
  refine wo_l R hk hc (4 * (2 * f 0 - 1)).toNat W (kk := 0) (by decide) (by omega) hI (fun i i0 i1 => by omega) (fun T g W2 r2 I2 D2 l2 => ⟨rfl, g, W2, r2, I2, fun p h fi v hh q => ?_, l2⟩)
  have v1 := v.1
  have v2 := v.2.1
  have a := D2 (4 * (h + f 0 - 1) + 2 * p + fi) (by omega) (by omega)
  rw [show (4 * (h + f 0 - 1) + 2 * p + fi) / 2 % 2 = p by omega, show (4 * (h + f 0 - 1) + 2 * p + fi) / 4 - f 0 + 1 = h by omega, show (4 * (h + f 0 - 1) + 2 * p + fi) % 2 = fi by omega] at a
  exact a q
