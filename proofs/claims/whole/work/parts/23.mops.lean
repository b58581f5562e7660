/-! 23.mops: the reference's changes of state -/
theorem MW_all {S : pS} {B : Nat → Nat} {f hs sl sv ti tx to : Int → Int} {n ik kr ks L sp nu rd : Int} (W : MW S B f hs sl sv ti tx to n ik kr ks L sp nu rd) (g : Int → Int) : MW (pu S (B 1) (aI 19 g)) B g hs sl sv ti tx to n ik kr ks L sp nu rd ∧ frM S (pu S (B 1) (aI 19 g)) B :=
  ⟨⟨(pu_ne _ _ (ne_OI W.1 W.2.1)).trans W.1, pu_self _ _ _, (pu_ne _ _ (ne_II W.2.2.1 W.2.1 (by decide))).trans W.2.2.1, (pu_ne _ _ (ne_II W.2.2.2.1 W.2.1 (by decide))).trans W.2.2.2.1, (pu_ne _ _ (ne_II W.2.2.2.2.1 W.2.1 (by decide))).trans W.2.2.2.2.1, (pu_ne _ _ (ne_II W.2.2.2.2.2.1 W.2.1 (by decide))).trans W.2.2.2.2.2.1, (pu_ne _ _ (ne_II W.2.2.2.2.2.2.1 W.2.1 (by decide))).trans W.2.2.2.2.2.2.1, (pu_ne _ _ (ne_II W.2.2.2.2.2.2.2 W.2.1 (by decide))).trans W.2.2.2.2.2.2.2⟩, fun x _ h1 _ _ _ _ _ _ => pu_ne _ _ h1⟩
/-- the row may be told another way -/
theorem J_all {y : MethodName} {cc : ByteArray} {nL : Nat} {rt : Option FieldType} {d tc ts : Nat} {K : Option Value → pS → Prop} {c0 s0 : Nat} {S : pS} {pc : Nat} {Lo : List (Option Value)} {st : List Value} {B : Nat → Nat} {f hs sl sv ti tx to : Int → Int} {n ik kr ks L sp nu rd : Int} (W : MW S B f hs sl sv ti tx to n ik kr ks L sp nu rd) (g : Int → Int) (hg : ∀ k, 0 ≤ k → k < 19 → f k = g k) (k : ∀ T, MW T B g hs sl sv ti tx to n ik kr ks L sp nu rd → frM S T B → Jd y cc nL rt d tc ts K c0 s0 T pc Lo st) : Jd y cc nL rt d tc ts K c0 s0 S pc Lo st :=
  J_cong W.2.1 (fun i hi => by rw [hg i (by omega) (by omega)]) (k _ (MW_all W g).1 (MW_all W g).2)
theorem c19 {P : Int → Prop} (h0 : P 0) (h1 : P 1) (h2 : P 2) (h3 : P 3) (h4 : P 4) (h5 : P 5) (h6 : P 6) (h7 : P 7) (h8 : P 8) (h9 : P 9) (h10 : P 10) (h11 : P 11) (h12 : P 12) (h13 : P 13) (h14 : P 14) (h15 : P 15) (h16 : P 16) (h17 : P 17) (h18 : P 18) : ∀ k, 0 ≤ k → k < 19 → P k := by
  intro k a b
  rcases (show k = 0 ∨ k = 1 ∨ k = 2 ∨ k = 3 ∨ k = 4 ∨ k = 5 ∨ k = 6 ∨ k = 7 ∨ k = 8 ∨ k = 9 ∨ k = 10 ∨ k = 11 ∨ k = 12 ∨ k = 13 ∨ k = 14 ∨ k = 15 ∨ k = 16 ∨ k = 17 ∨ k = 18 by omega) with rfl | rfl | rfl | rfl | rfl | rfl | rfl | rfl | rfl | rfl | rfl | rfl | rfl | rfl | rfl | rfl | rfl | rfl | rfl <;> assumption
theorem uZ_e {f : Int → Int} {z v : Int} : uZ f z v z = v := if_pos rfl
theorem uZ_n {f : Int → Int} {z v k : Int} (h : k ≠ z) : uZ f z v k = f k := if_neg h
set_option maxHeartbeats 4000000 in
set_option maxRecDepth 20000 in
theorem c_X10_newGame {S : pS} {B : Nat → Nat} {f hs sl sv ti tx to : Int → Int} {n ik kr ks L sp nu rd : Int} (W : MW S B f hs sl sv ti tx to n ik kr ks L sp nu rd) : Ct yX10_newGame cX10_newGame 2 none 0 0 0 [.ref (B 0)] S (kNS (fun T => MW T B (newF f) hs sl sv ti tx to n ik kr ks L sp nu rd ∧ frM S T B)) := by
  refine Ct.ofJ (by decide +kernel) (Nat.le_of_ble_eq_true rfl) ?_
  refine J_L (L1 := [some (.ref (B 0)), none]) rfl ?_
  refine J_aload_n (pc1 := 1) rfl (i := 0) rfl dX10_newGame_0 rfl ?_
  refine J_get (pc1 := 4) (j := 0) inUX10 (ci := 10) rfl (by decide) lf_X10_7 dX10_newGame_1 rfl W.1 rfl ?_
  refine J_iconst (pc1 := 5) dX10_newGame_4 rfl ?_
  refine J_iconst (pc1 := 6) dX10_newGame_5 rfl ?_
  refine J_iast (pc1 := 7) dX10_newGame_6 rfl W.2.1 (by omega) (by omega) (by omega) ?_
  refine J_aload_n (pc1 := 8) rfl (i := 0) rfl dX10_newGame_7 rfl ?_
  refine J_get (pc1 := 11) (j := 0) inUX10 (ci := 10) rfl (by decide) lf_X10_7 dX10_newGame_8 rfl ((pu_ne _ _ (ne_OI W.1 W.2.1)).trans W.1) rfl ?_
  refine J_iconst (pc1 := 12) dX10_newGame_11 rfl ?_
  refine J_iconst (pc1 := 13) dX10_newGame_12 rfl ?_
  refine J_iast (pc1 := 14) dX10_newGame_13 rfl (pu_self _ _ _) (by omega) (by omega) (by omega) ?_
  rw [pu_pu]
  refine J_aload_n (pc1 := 15) rfl (i := 0) rfl dX10_newGame_14 rfl ?_
  refine J_get (pc1 := 18) (j := 0) inUX10 (ci := 10) rfl (by decide) lf_X10_7 dX10_newGame_15 rfl ((pu_ne _ _ (ne_OI W.1 W.2.1)).trans W.1) rfl ?_
  refine J_bipush (pc1 := 20) (by decide) dX10_newGame_18 rfl ?_
  refine J_iconst (pc1 := 21) dX10_newGame_20 rfl ?_
  refine J_iast (pc1 := 22) dX10_newGame_21 rfl (pu_self _ _ _) (by omega) (by omega) (by omega) ?_
  rw [pu_pu]
  refine J_aload_n (pc1 := 23) rfl (i := 0) rfl dX10_newGame_22 rfl ?_
  refine J_get (pc1 := 26) (j := 0) inUX10 (ci := 10) rfl (by decide) lf_X10_7 dX10_newGame_23 rfl ((pu_ne _ _ (ne_OI W.1 W.2.1)).trans W.1) rfl ?_
  refine J_bipush (pc1 := 28) (by decide) dX10_newGame_26 rfl ?_
  refine J_iconst (pc1 := 29) dX10_newGame_28 rfl ?_
  refine J_iast (pc1 := 30) dX10_newGame_29 rfl (pu_self _ _ _) (by omega) (by omega) (by omega) ?_
  rw [pu_pu]
  refine J_iconst (pc1 := 31) dX10_newGame_30 rfl ?_
  refine J_istore_n (pc1 := 32) (L1 := [some (.ref (B 0)), some (.int (iI 0))]) rfl (i := 1) dX10_newGame_31 rfl (by decide) rfl rfl ?_
  refine J_iload_n (pc1 := 33) rfl (i := 1) rfl dX10_newGame_32 rfl ?_
  refine J_iconst (pc1 := 34) dX10_newGame_33 rfl ?_
  refine J_icmp_ge (pc1 := 37) (tgt := 81) (by decide) (by decide) (by decide) (by decide) dX10_newGame_34 rfl rfl (fun hc1 => ?_) (fun hc1 => ?_)
  · exact absurd hc1 (by decide)
  · refine J_aload_n (pc1 := 38) rfl (i := 0) rfl dX10_newGame_37 rfl ?_
    refine J_get (pc1 := 41) (j := 0) inUX10 (ci := 10) rfl (by decide) lf_X10_7 dX10_newGame_38 rfl ((pu_ne _ _ (ne_OI W.1 W.2.1)).trans W.1) rfl ?_
    refine J_bipush (pc1 := 43) (by decide) dX10_newGame_41 rfl ?_
    refine J_iload_n (pc1 := 44) rfl (i := 1) rfl dX10_newGame_43 rfl ?_
    refine J_iaddE (pc1 := 45) (z := 7) (by decide) dX10_newGame_44 rfl ?_
    refine J_aload_n (pc1 := 46) rfl (i := 0) rfl dX10_newGame_45 rfl ?_
    refine J_get (pc1 := 49) (j := 0) inUX10 (ci := 10) rfl (by decide) lf_X10_7 dX10_newGame_46 rfl ((pu_ne _ _ (ne_OI W.1 W.2.1)).trans W.1) rfl ?_
    refine J_bipush (pc1 := 51) (by decide) dX10_newGame_49 rfl ?_
    refine J_iload_n (pc1 := 52) rfl (i := 1) rfl dX10_newGame_51 rfl ?_
    refine J_iaddE (pc1 := 53) (z := 9) (by decide) dX10_newGame_52 rfl ?_
    refine J_iald (pc1 := 54) dX10_newGame_53 rfl (pu_self _ _ _) (by omega) (by omega) (by omega) ?_
    refine J_iast (pc1 := 55) dX10_newGame_54 rfl (pu_self _ _ _) (by omega) (by omega) (by omega) ?_
    rw [pu_pu]
    refine J_aload_n (pc1 := 56) rfl (i := 0) rfl dX10_newGame_55 rfl ?_
    refine J_get (pc1 := 59) (j := 0) inUX10 (ci := 10) rfl (by decide) lf_X10_7 dX10_newGame_56 rfl ((pu_ne _ _ (ne_OI W.1 W.2.1)).trans W.1) rfl ?_
    refine J_bipush (pc1 := 61) (by decide) dX10_newGame_59 rfl ?_
    refine J_iload_n (pc1 := 62) rfl (i := 1) rfl dX10_newGame_61 rfl ?_
    refine J_iaddE (pc1 := 63) (z := 11) (by decide) dX10_newGame_62 rfl ?_
    refine J_iconst (pc1 := 64) dX10_newGame_63 rfl ?_
    refine J_iast (pc1 := 65) dX10_newGame_64 rfl (pu_self _ _ _) (by omega) (by omega) (by omega) ?_
    rw [pu_pu]
    refine J_aload_n (pc1 := 66) rfl (i := 0) rfl dX10_newGame_65 rfl ?_
    refine J_get (pc1 := 69) (j := 0) inUX10 (ci := 10) rfl (by decide) lf_X10_7 dX10_newGame_66 rfl ((pu_ne _ _ (ne_OI W.1 W.2.1)).trans W.1) rfl ?_
    refine J_bipush (pc1 := 71) (by decide) dX10_newGame_69 rfl ?_
    refine J_iload_n (pc1 := 72) rfl (i := 1) rfl dX10_newGame_71 rfl ?_
    refine J_iaddE (pc1 := 73) (z := 13) (by decide) dX10_newGame_72 rfl ?_
    refine J_iconst (pc1 := 74) dX10_newGame_73 rfl ?_
    refine J_iast (pc1 := 75) dX10_newGame_74 rfl (pu_self _ _ _) (by omega) (by omega) (by omega) ?_
    rw [pu_pu]
    refine J_iinc (pc1 := 78) (L1 := [some (.ref (B 0)), some (.int (iI 1))]) dX10_newGame_75 rfl rfl (by decide) rfl rfl ?_
    refine J_goto (tgt := 32) dX10_newGame_78 rfl ?_
    refine J_iload_n (pc1 := 33) rfl (i := 1) rfl dX10_newGame_32 rfl ?_
    refine J_iconst (pc1 := 34) dX10_newGame_33 rfl ?_
    refine J_icmp_ge (pc1 := 37) (tgt := 81) (by decide) (by decide) (by decide) (by decide) dX10_newGame_34 rfl rfl (fun hc2 => ?_) (fun hc2 => ?_)
    · exact absurd hc2 (by decide)
    · refine J_aload_n (pc1 := 38) rfl (i := 0) rfl dX10_newGame_37 rfl ?_
      refine J_get (pc1 := 41) (j := 0) inUX10 (ci := 10) rfl (by decide) lf_X10_7 dX10_newGame_38 rfl ((pu_ne _ _ (ne_OI W.1 W.2.1)).trans W.1) rfl ?_
      refine J_bipush (pc1 := 43) (by decide) dX10_newGame_41 rfl ?_
      refine J_iload_n (pc1 := 44) rfl (i := 1) rfl dX10_newGame_43 rfl ?_
      refine J_iaddE (pc1 := 45) (z := 8) (by decide) dX10_newGame_44 rfl ?_
      refine J_aload_n (pc1 := 46) rfl (i := 0) rfl dX10_newGame_45 rfl ?_
      refine J_get (pc1 := 49) (j := 0) inUX10 (ci := 10) rfl (by decide) lf_X10_7 dX10_newGame_46 rfl ((pu_ne _ _ (ne_OI W.1 W.2.1)).trans W.1) rfl ?_
      refine J_bipush (pc1 := 51) (by decide) dX10_newGame_49 rfl ?_
      refine J_iload_n (pc1 := 52) rfl (i := 1) rfl dX10_newGame_51 rfl ?_
      refine J_iaddE (pc1 := 53) (z := 10) (by decide) dX10_newGame_52 rfl ?_
      refine J_iald (pc1 := 54) dX10_newGame_53 rfl (pu_self _ _ _) (by omega) (by omega) (by omega) ?_
      refine J_iast (pc1 := 55) dX10_newGame_54 rfl (pu_self _ _ _) (by omega) (by omega) (by omega) ?_
      rw [pu_pu]
      refine J_aload_n (pc1 := 56) rfl (i := 0) rfl dX10_newGame_55 rfl ?_
      refine J_get (pc1 := 59) (j := 0) inUX10 (ci := 10) rfl (by decide) lf_X10_7 dX10_newGame_56 rfl ((pu_ne _ _ (ne_OI W.1 W.2.1)).trans W.1) rfl ?_
      refine J_bipush (pc1 := 61) (by decide) dX10_newGame_59 rfl ?_
      refine J_iload_n (pc1 := 62) rfl (i := 1) rfl dX10_newGame_61 rfl ?_
      refine J_iaddE (pc1 := 63) (z := 12) (by decide) dX10_newGame_62 rfl ?_
      refine J_iconst (pc1 := 64) dX10_newGame_63 rfl ?_
      refine J_iast (pc1 := 65) dX10_newGame_64 rfl (pu_self _ _ _) (by omega) (by omega) (by omega) ?_
      rw [pu_pu]
      refine J_aload_n (pc1 := 66) rfl (i := 0) rfl dX10_newGame_65 rfl ?_
      refine J_get (pc1 := 69) (j := 0) inUX10 (ci := 10) rfl (by decide) lf_X10_7 dX10_newGame_66 rfl ((pu_ne _ _ (ne_OI W.1 W.2.1)).trans W.1) rfl ?_
      refine J_bipush (pc1 := 71) (by decide) dX10_newGame_69 rfl ?_
      refine J_iload_n (pc1 := 72) rfl (i := 1) rfl dX10_newGame_71 rfl ?_
      refine J_iaddE (pc1 := 73) (z := 14) (by decide) dX10_newGame_72 rfl ?_
      refine J_iconst (pc1 := 74) dX10_newGame_73 rfl ?_
      refine J_iast (pc1 := 75) dX10_newGame_74 rfl (pu_self _ _ _) (by omega) (by omega) (by omega) ?_
      rw [pu_pu]
      refine J_iinc (pc1 := 78) (L1 := [some (.ref (B 0)), some (.int (iI 2))]) dX10_newGame_75 rfl rfl (by decide) rfl rfl ?_
      refine J_goto (tgt := 32) dX10_newGame_78 rfl ?_
      refine J_iload_n (pc1 := 33) rfl (i := 1) rfl dX10_newGame_32 rfl ?_
      refine J_iconst (pc1 := 34) dX10_newGame_33 rfl ?_
      refine J_icmp_ge (pc1 := 37) (tgt := 81) (by decide) (by decide) (by decide) (by decide) dX10_newGame_34 rfl rfl (fun hc3 => ?_) (fun hc3 => ?_)
      · refine J_all (f := (uZ (uZ (uZ (uZ (uZ (uZ (uZ (uZ (uZ (uZ f 4 0) 5 0) 6 0) 17 0) 7 ((uZ (uZ (uZ (uZ f 4 0) 5 0) 6 0) 17 0) 9)) 11 0) 13 0) 8 ((uZ (uZ (uZ (uZ (uZ (uZ (uZ f 4 0) 5 0) 6 0) 17 0) 7 ((uZ (uZ (uZ (uZ f 4 0) 5 0) 6 0) 17 0) 9)) 11 0) 13 0) 10)) 12 0) 14 0)) ⟨((pu_ne _ _ (ne_OI W.1 W.2.1)).trans W.1), (pu_self _ _ _), ((pu_ne _ _ (ne_II W.2.2.1 W.2.1 (by decide))).trans W.2.2.1), ((pu_ne _ _ (ne_II W.2.2.2.1 W.2.1 (by decide))).trans W.2.2.2.1), ((pu_ne _ _ (ne_II W.2.2.2.2.1 W.2.1 (by decide))).trans W.2.2.2.2.1), ((pu_ne _ _ (ne_II W.2.2.2.2.2.1 W.2.1 (by decide))).trans W.2.2.2.2.2.1), ((pu_ne _ _ (ne_II W.2.2.2.2.2.2.1 W.2.1 (by decide))).trans W.2.2.2.2.2.2.1), ((pu_ne _ _ (ne_II W.2.2.2.2.2.2.2 W.2.1 (by decide))).trans W.2.2.2.2.2.2.2)⟩ (newF f) (c19 rfl rfl rfl rfl rfl rfl rfl rfl rfl rfl rfl rfl rfl rfl rfl rfl rfl rfl rfl) (fun T W2 fr2 => ?_)
        exact J_vret rfl dX10_newGame_81 (Nat.le_refl _) (Nat.le_refl _) ⟨rfl, W2, frM.tr (fun x h0 h1 h2 h3 h4 h5 h6 h7 => (pu_ne _ _ h1)) fr2⟩
      · exact absurd hc3 (by decide)
set_option maxHeartbeats 1000000 in
set_option maxRecDepth 20000 in
theorem pl_A {S : pS} {B : Nat → Nat} {f hs sl sv ti tx to : Int → Int} {n ik kr ks L sp nu rd : Int} (W : MW S B f hs sl sv ti tx to n ik kr ks L sp nu rd) {K : Option Value → pS → Prop} {b a : Int} (hb : 0 ≤ b ∧ b ≤ 1000) (ha : 0 ≤ a ∧ a ≤ 1000) (ok : okF f) (k : ∀ T, MW T B f hs sl sv ti tx to n ik kr ks L sp nu rd → frM S T B → Jd yX10_plays cX10_plays 6 (Option.some FieldType.int) 1 0 0 K 0 0 T 30 [some (.ref (B 0)), some (.int (iI b)), some (.int (iI a)), some (.int (iI (tkF f b a))), some (.int (iI (prF f b a))), none] []) : Jd yX10_plays cX10_plays 6 (Option.some FieldType.int) 1 0 0 K 0 0 S 0 [some (.ref (B 0)), some (.int (iI b)), some (.int (iI a)), none, none, none] [] := by
  have h9 := tkF_b ok b a
  have h8 : tkG (f 3) (f 5) b a = tkF f b a := rfl
  obtain ⟨o0, o1, o2, o3, o4, o5, o7, o9, o10, o12, o13, -⟩ := ok
  show Jd yX10_plays cX10_plays 6 (Option.some FieldType.int) 1 0 0 K 0 0 S 0 [some (.ref (B 0)), some (.int (iI b)), some (.int (iI a)), none, none, none] []
  refine J_aload_n (pc1 := 1) rfl (i := 0) rfl dX10_plays_0 rfl ?_
  refine J_aload_n (pc1 := 2) rfl (i := 0) rfl dX10_plays_1 rfl ?_
  refine J_get (pc1 := 5) (j := 0) inUX10 (ci := 10) rfl (by decide) lf_X10_7 dX10_plays_2 rfl W.1 rfl ?_
  refine J_iconst (pc1 := 6) dX10_plays_5 rfl ?_
  refine J_iald (pc1 := 7) dX10_plays_6 rfl W.2.1 (by omega) (by omega) (by omega) ?_
  refine J_iload_n (pc1 := 8) rfl (i := 1) rfl dX10_plays_7 rfl ?_
  refine J_iload_n (pc1 := 9) rfl (i := 2) rfl dX10_plays_8 rfl ?_
  refine J_callVI (pc1 := 12) (As := [.int (iI (f 5)), .int (iI b), .int (iI a)]) gv_X10_42 yv_X10_taker rfl (c_X10_taker ⟨W.1, W.2.1, W.2.2.1, W.2.2.2.1, W.2.2.2.2.1, W.2.2.2.2.2.1, W.2.2.2.2.2.2.1, W.2.2.2.2.2.2.2⟩ (b := b) (a := a) (by omega) (by omega) (by omega)) dX10_plays_9 rfl W.1 rfl rfl (by omega) (by decide) (by omega) (by omega) (Nat.le_of_ble_eq_true rfl) ?_
  refine J_istore_n (pc1 := 13) (L1 := [some (.ref (B 0)), some (.int (iI b)), some (.int (iI a)), some (.int (iI (tkG (f 3) (f 5) b a))), none, none]) rfl (i := 3) dX10_plays_12 rfl (by decide) rfl rfl ?_
  refine J_iload_n (pc1 := 14) rfl (i := 3) rfl dX10_plays_13 rfl ?_
  refine J_aload_n (pc1 := 15) rfl (i := 0) rfl dX10_plays_14 rfl ?_
  refine J_get (pc1 := 18) (j := 0) inUX10 (ci := 10) rfl (by decide) lf_X10_7 dX10_plays_15 rfl W.1 rfl ?_
  refine J_iconst (pc1 := 19) dX10_plays_18 rfl ?_
  refine J_iald (pc1 := 20) dX10_plays_19 rfl W.2.1 (by omega) (by omega) (by omega) ?_
  refine J_icmp_ne (pc1 := 23) (tgt := 27) (by omega) (by omega) (by omega) (by omega) dX10_plays_20 rfl rfl (fun hc1 => ?_) (fun hc1 => ?_)
  · refine J_iload_n (pc1 := 28) rfl (i := 2) rfl dX10_plays_27 rfl ?_
    refine J_istore (pc1 := 30) (L1 := [some (.ref (B 0)), some (.int (iI b)), some (.int (iI a)), some (.int (iI (tkG (f 3) (f 5) b a))), some (.int (iI a)), none]) dX10_plays_28 rfl (by decide) rfl rfl ?_
    refine J_L (L1 := [some (.ref (B 0)), some (.int (iI b)), some (.int (iI a)), some (.int (iI (tkG (f 3) (f 5) b a))), some (.int (iI (prF f b a))), none]) (by rw [show prF f b a = a from if_neg (by assumption)]) ?_
    refine J_L (L1 := [some (.ref (B 0)), some (.int (iI b)), some (.int (iI a)), some (.int (iI (tkF f b a))), some (.int (iI (prF f b a))), none]) (by first | rfl | (congr 1; done)) ?_
    exact k _ ⟨W.1, W.2.1, W.2.2.1, W.2.2.2.1, W.2.2.2.2.1, W.2.2.2.2.2.1, W.2.2.2.2.2.2.1, W.2.2.2.2.2.2.2⟩ (fun x h0 h1 h2 h3 h4 h5 h6 h7 => rfl)
  · refine J_iload_n (pc1 := 24) rfl (i := 1) rfl dX10_plays_23 rfl ?_
    refine J_goto (tgt := 28) dX10_plays_24 rfl ?_
    refine J_istore (pc1 := 30) (L1 := [some (.ref (B 0)), some (.int (iI b)), some (.int (iI a)), some (.int (iI (tkG (f 3) (f 5) b a))), some (.int (iI b)), none]) dX10_plays_28 rfl (by decide) rfl rfl ?_
    refine J_L (L1 := [some (.ref (B 0)), some (.int (iI b)), some (.int (iI a)), some (.int (iI (tkG (f 3) (f 5) b a))), some (.int (iI (prF f b a))), none]) (by rw [show prF f b a = b from if_pos (by assumption)]) ?_
    refine J_L (L1 := [some (.ref (B 0)), some (.int (iI b)), some (.int (iI a)), some (.int (iI (tkF f b a))), some (.int (iI (prF f b a))), none]) (by first | rfl | (congr 1; done)) ?_
    exact k _ ⟨W.1, W.2.1, W.2.2.1, W.2.2.2.1, W.2.2.2.2.1, W.2.2.2.2.2.1, W.2.2.2.2.2.2.1, W.2.2.2.2.2.2.2⟩ (fun x h0 h1 h2 h3 h4 h5 h6 h7 => rfl)
set_option maxHeartbeats 1000000 in
set_option maxRecDepth 20000 in
theorem pl_B {S : pS} {B : Nat → Nat} {f hs sl sv ti tx to : Int → Int} {n ik kr ks L sp nu rd : Int} (W : MW S B f hs sl sv ti tx to n ik kr ks L sp nu rd) {K : Option Value → pS → Prop} {b a tk py : Int} (htk : tk = 0 ∨ tk = 1) {ps : Int} (e2 : f 2 = ps) (hps : ps = 0 ∨ ps = 1) (k : ∀ T, MW T B (uZ f (7 + tk) ((f (7 + tk)) - py)) hs sl sv ti tx to n ik kr ks L sp nu rd → frM S T B → Jd yX10_plays cX10_plays 6 (Option.some FieldType.int) 1 0 0 K 0 0 T 69 [some (.ref (B 0)), some (.int (iI b)), some (.int (iI a)), some (.int (iI tk)), some (.int (iI py)), none] [.int (iI (gaE ps py)), .int (iI (uZ f (7 + tk) (f (7 + tk) - py) (8 - tk))), .int (iI (8 - tk)), .ref (B 1)]) : Jd yX10_plays cX10_plays 6 (Option.some FieldType.int) 1 0 0 K 0 0 S 30 [some (.ref (B 0)), some (.int (iI b)), some (.int (iI a)), some (.int (iI tk)), some (.int (iI py)), none] [] := by
  have e3 : uZ f (7 + tk) (f (7 + tk) - py) 2 = ps := (uZ_n (by omega)).trans e2
  show Jd yX10_plays cX10_plays 6 (Option.some FieldType.int) 1 0 0 K 0 0 S 30 [some (.ref (B 0)), some (.int (iI b)), some (.int (iI a)), some (.int (iI tk)), some (.int (iI py)), none] []
  refine J_aload_n (pc1 := 31) rfl (i := 0) rfl dX10_plays_30 rfl ?_
  refine J_get (pc1 := 34) (j := 0) inUX10 (ci := 10) rfl (by decide) lf_X10_7 dX10_plays_31 rfl W.1 rfl ?_
  refine J_bipush (pc1 := 36) (by decide) dX10_plays_34 rfl ?_
  refine J_iload_n (pc1 := 37) rfl (i := 3) rfl dX10_plays_36 rfl ?_
  refine J_iadd (pc1 := 38) dX10_plays_37 rfl ?_
  refine J_dup2 (pc1 := 39) rfl rfl dX10_plays_38 rfl ?_
  refine J_iald (pc1 := 40) dX10_plays_39 rfl W.2.1 (by omega) (by omega) (by omega) ?_
  refine J_iload (pc1 := 42) rfl dX10_plays_40 rfl ?_
  refine J_isub (pc1 := 43) dX10_plays_42 rfl ?_
  refine J_iast (pc1 := 44) dX10_plays_43 rfl W.2.1 (by omega) (by omega) (by omega) ?_
  refine J_aload_n (pc1 := 45) rfl (i := 0) rfl dX10_plays_44 rfl ?_
  refine J_get (pc1 := 48) (j := 0) inUX10 (ci := 10) rfl (by decide) lf_X10_7 dX10_plays_45 rfl ((pu_ne _ _ (ne_OI W.1 W.2.1)).trans W.1) rfl ?_
  refine J_bipush (pc1 := 50) (by decide) dX10_plays_48 rfl ?_
  refine J_iload_n (pc1 := 51) rfl (i := 3) rfl dX10_plays_50 rfl ?_
  refine J_isub (pc1 := 52) dX10_plays_51 rfl ?_
  refine J_dup2 (pc1 := 53) rfl rfl dX10_plays_52 rfl ?_
  refine J_iald (pc1 := 54) dX10_plays_53 rfl (pu_self _ _ _) (by omega) (by omega) (by omega) ?_
  refine J_aload_n (pc1 := 55) rfl (i := 0) rfl dX10_plays_54 rfl ?_
  refine J_get (pc1 := 58) (j := 0) inUX10 (ci := 10) rfl (by decide) lf_X10_7 dX10_plays_55 rfl ((pu_ne _ _ (ne_OI W.1 W.2.1)).trans W.1) rfl ?_
  refine J_iconst (pc1 := 59) dX10_plays_58 rfl ?_
  refine J_iald (pc1 := 60) dX10_plays_59 rfl (pu_self _ _ _) (by omega) (by omega) (by omega) ?_
  refine J_if_ne (pc1 := 63) (tgt := 68) (by omega) (by omega) dX10_plays_60 rfl rfl (fun hc1 => ?_) (fun hc1 => ?_)
  · refine J_iconst (pc1 := 69) dX10_plays_68 rfl ?_
    refine J_st (st1 := [.int (iI (gaE ps py)), .int (iI ((uZ f (7 + tk) ((f (7 + tk)) - py)) (8 - tk))), .int (iI (8 - tk)), .ref (B 1)]) (by rw [show (gaE ps py) = 0 by unfold gaE; first | rw [if_pos (by omega)] | rw [if_neg (by omega)]]) ?_
    exact k _ ⟨((pu_ne _ _ (ne_OI W.1 W.2.1)).trans W.1), (pu_self _ _ _), ((pu_ne _ _ (ne_II W.2.2.1 W.2.1 (by decide))).trans W.2.2.1), ((pu_ne _ _ (ne_II W.2.2.2.1 W.2.1 (by decide))).trans W.2.2.2.1), ((pu_ne _ _ (ne_II W.2.2.2.2.1 W.2.1 (by decide))).trans W.2.2.2.2.1), ((pu_ne _ _ (ne_II W.2.2.2.2.2.1 W.2.1 (by decide))).trans W.2.2.2.2.2.1), ((pu_ne _ _ (ne_II W.2.2.2.2.2.2.1 W.2.1 (by decide))).trans W.2.2.2.2.2.2.1), ((pu_ne _ _ (ne_II W.2.2.2.2.2.2.2 W.2.1 (by decide))).trans W.2.2.2.2.2.2.2)⟩ (fun x h0 h1 h2 h3 h4 h5 h6 h7 => (pu_ne _ _ h1))
  · refine J_iload (pc1 := 65) rfl dX10_plays_63 rfl ?_
    refine J_goto (tgt := 69) dX10_plays_65 rfl ?_
    refine J_st (st1 := [.int (iI (gaE ps py)), .int (iI ((uZ f (7 + tk) ((f (7 + tk)) - py)) (8 - tk))), .int (iI (8 - tk)), .ref (B 1)]) (by rw [show (gaE ps py) = py by unfold gaE; first | rw [if_pos (by omega)] | rw [if_neg (by omega)]]) ?_
    exact k _ ⟨((pu_ne _ _ (ne_OI W.1 W.2.1)).trans W.1), (pu_self _ _ _), ((pu_ne _ _ (ne_II W.2.2.1 W.2.1 (by decide))).trans W.2.2.1), ((pu_ne _ _ (ne_II W.2.2.2.1 W.2.1 (by decide))).trans W.2.2.2.1), ((pu_ne _ _ (ne_II W.2.2.2.2.1 W.2.1 (by decide))).trans W.2.2.2.2.1), ((pu_ne _ _ (ne_II W.2.2.2.2.2.1 W.2.1 (by decide))).trans W.2.2.2.2.2.1), ((pu_ne _ _ (ne_II W.2.2.2.2.2.2.1 W.2.1 (by decide))).trans W.2.2.2.2.2.2.1), ((pu_ne _ _ (ne_II W.2.2.2.2.2.2.2 W.2.1 (by decide))).trans W.2.2.2.2.2.2.2)⟩ (fun x h0 h1 h2 h3 h4 h5 h6 h7 => (pu_ne _ _ h1))
set_option maxHeartbeats 1000000 in
set_option maxRecDepth 20000 in
theorem pl_C {S : pS} {B : Nat → Nat} {f hs sl sv ti tx to : Int → Int} {n ik kr ks L sp nu rd : Int} (W : MW S B f hs sl sv ti tx to n ik kr ks L sp nu rd) {K : Option Value → pS → Prop} {b a tk py : Int} (htk : tk = 0 ∨ tk = 1) {ps x ga : Int} (e2 : f 2 = ps) (hps : ps = 0 ∨ ps = 1) (k : ∀ T, MW T B (uZ f (8 - tk) (x + ga)) hs sl sv ti tx to n ik kr ks L sp nu rd → frM S T B → Jd yX10_plays cX10_plays 6 (Option.some FieldType.int) 1 0 0 K 0 0 T 95 [some (.ref (B 0)), some (.int (iI b)), some (.int (iI a)), some (.int (iI tk)), some (.int (iI py)), none] [.int (iI (py - gaE ps py)), .int (iI (uZ f (8 - tk) (x + ga) 17)), .int (iI 17), .ref (B 1)]) : Jd yX10_plays cX10_plays 6 (Option.some FieldType.int) 1 0 0 K 0 0 S 69 [some (.ref (B 0)), some (.int (iI b)), some (.int (iI a)), some (.int (iI tk)), some (.int (iI py)), none] [.int (iI ga), .int (iI x), .int (iI (8 - tk)), .ref (B 1)] := by
  have e3 : uZ f (8 - tk) (x + ga) 2 = ps := (uZ_n (by omega)).trans e2
  show Jd yX10_plays cX10_plays 6 (Option.some FieldType.int) 1 0 0 K 0 0 S 69 [some (.ref (B 0)), some (.int (iI b)), some (.int (iI a)), some (.int (iI tk)), some (.int (iI py)), none] [.int (iI ga), .int (iI x), .int (iI (8 - tk)), .ref (B 1)]
  refine J_iadd (pc1 := 70) dX10_plays_69 rfl ?_
  refine J_iast (pc1 := 71) dX10_plays_70 rfl W.2.1 (by omega) (by omega) (by omega) ?_
  refine J_aload_n (pc1 := 72) rfl (i := 0) rfl dX10_plays_71 rfl ?_
  refine J_get (pc1 := 75) (j := 0) inUX10 (ci := 10) rfl (by decide) lf_X10_7 dX10_plays_72 rfl ((pu_ne _ _ (ne_OI W.1 W.2.1)).trans W.1) rfl ?_
  refine J_bipush (pc1 := 77) (by decide) dX10_plays_75 rfl ?_
  refine J_dup2 (pc1 := 78) rfl rfl dX10_plays_77 rfl ?_
  refine J_iald (pc1 := 79) dX10_plays_78 rfl (pu_self _ _ _) (by omega) (by omega) (by omega) ?_
  refine J_aload_n (pc1 := 80) rfl (i := 0) rfl dX10_plays_79 rfl ?_
  refine J_get (pc1 := 83) (j := 0) inUX10 (ci := 10) rfl (by decide) lf_X10_7 dX10_plays_80 rfl ((pu_ne _ _ (ne_OI W.1 W.2.1)).trans W.1) rfl ?_
  refine J_iconst (pc1 := 84) dX10_plays_83 rfl ?_
  refine J_iald (pc1 := 85) dX10_plays_84 rfl (pu_self _ _ _) (by omega) (by omega) (by omega) ?_
  refine J_iconst (pc1 := 86) dX10_plays_85 rfl ?_
  refine J_icmp_ne (pc1 := 89) (tgt := 94) (by omega) (by omega) (by decide) (by decide) dX10_plays_86 rfl rfl (fun hc1 => ?_) (fun hc1 => ?_)
  · refine J_iconst (pc1 := 95) dX10_plays_94 rfl ?_
    refine J_st (st1 := [.int (iI (py - gaE ps py)), .int (iI ((uZ f (8 - tk) (x + ga)) 17)), .int (iI 17), .ref (B 1)]) (by rw [show (py - gaE ps py) = 0 by unfold gaE; first | (rw [if_pos (by omega)]; omega) | (rw [if_neg (by omega)]; omega)]) ?_
    exact k _ ⟨((pu_ne _ _ (ne_OI W.1 W.2.1)).trans W.1), (pu_self _ _ _), ((pu_ne _ _ (ne_II W.2.2.1 W.2.1 (by decide))).trans W.2.2.1), ((pu_ne _ _ (ne_II W.2.2.2.1 W.2.1 (by decide))).trans W.2.2.2.1), ((pu_ne _ _ (ne_II W.2.2.2.2.1 W.2.1 (by decide))).trans W.2.2.2.2.1), ((pu_ne _ _ (ne_II W.2.2.2.2.2.1 W.2.1 (by decide))).trans W.2.2.2.2.2.1), ((pu_ne _ _ (ne_II W.2.2.2.2.2.2.1 W.2.1 (by decide))).trans W.2.2.2.2.2.2.1), ((pu_ne _ _ (ne_II W.2.2.2.2.2.2.2 W.2.1 (by decide))).trans W.2.2.2.2.2.2.2)⟩ (fun x h0 h1 h2 h3 h4 h5 h6 h7 => (pu_ne _ _ h1))
  · refine J_iload (pc1 := 91) rfl dX10_plays_89 rfl ?_
    refine J_goto (tgt := 95) dX10_plays_91 rfl ?_
    refine J_st (st1 := [.int (iI (py - gaE ps py)), .int (iI ((uZ f (8 - tk) (x + ga)) 17)), .int (iI 17), .ref (B 1)]) (by rw [show (py - gaE ps py) = py by unfold gaE; first | (rw [if_pos (by omega)]; omega) | (rw [if_neg (by omega)]; omega)]) ?_
    exact k _ ⟨((pu_ne _ _ (ne_OI W.1 W.2.1)).trans W.1), (pu_self _ _ _), ((pu_ne _ _ (ne_II W.2.2.1 W.2.1 (by decide))).trans W.2.2.1), ((pu_ne _ _ (ne_II W.2.2.2.1 W.2.1 (by decide))).trans W.2.2.2.1), ((pu_ne _ _ (ne_II W.2.2.2.2.1 W.2.1 (by decide))).trans W.2.2.2.2.1), ((pu_ne _ _ (ne_II W.2.2.2.2.2.1 W.2.1 (by decide))).trans W.2.2.2.2.2.1), ((pu_ne _ _ (ne_II W.2.2.2.2.2.2.1 W.2.1 (by decide))).trans W.2.2.2.2.2.2.1), ((pu_ne _ _ (ne_II W.2.2.2.2.2.2.2 W.2.1 (by decide))).trans W.2.2.2.2.2.2.2)⟩ (fun x h0 h1 h2 h3 h4 h5 h6 h7 => (pu_ne _ _ h1))
set_option maxHeartbeats 1000000 in
set_option maxRecDepth 20000 in
theorem pl_D {S : pS} {B : Nat → Nat} {f hs sl sv ti tx to : Int → Int} {n ik kr ks L sp nu rd : Int} (W : MW S B f hs sl sv ti tx to n ik kr ks L sp nu rd) {K : Option Value → pS → Prop} {b a tk py : Int} (htk : tk = 0 ∨ tk = 1) {x sp9 : Int} (k : ∀ T, MW T B (uZ (uZ (uZ f 17 (x + sp9)) (11 + tk) (((uZ f 17 (x + sp9)) (11 + tk)) + py)) (13 + tk) (((uZ (uZ f 17 (x + sp9)) (11 + tk) (((uZ f 17 (x + sp9)) (11 + tk)) + py)) (13 + tk)) + 1)) hs sl sv ti tx to n ik kr ks L sp nu rd → frM S T B → Jd yX10_plays cX10_plays 6 (Option.some FieldType.int) 1 0 0 K 0 0 T 140 [some (.ref (B 0)), some (.int (iI b)), some (.int (iI a)), some (.int (iI tk)), some (.int (iI py)), none] [.int (iI (if tk = 0 then 1 else -1)), .int (iI (uZ (uZ (uZ f 17 (x + sp9)) (11 + tk) (uZ f 17 (x + sp9) (11 + tk) + py)) (13 + tk) (uZ (uZ f 17 (x + sp9)) (11 + tk) (uZ f 17 (x + sp9) (11 + tk) + py) (13 + tk) + 1) 4)), .int (iI 4), .ref (B 1)]) : Jd yX10_plays cX10_plays 6 (Option.some FieldType.int) 1 0 0 K 0 0 S 95 [some (.ref (B 0)), some (.int (iI b)), some (.int (iI a)), some (.int (iI tk)), some (.int (iI py)), none] [.int (iI sp9), .int (iI x), .int (iI 17), .ref (B 1)] := by
  show Jd yX10_plays cX10_plays 6 (Option.some FieldType.int) 1 0 0 K 0 0 S 95 [some (.ref (B 0)), some (.int (iI b)), some (.int (iI a)), some (.int (iI tk)), some (.int (iI py)), none] [.int (iI sp9), .int (iI x), .int (iI 17), .ref (B 1)]
  refine J_iadd (pc1 := 96) dX10_plays_95 rfl ?_
  refine J_iast (pc1 := 97) dX10_plays_96 rfl W.2.1 (by omega) (by omega) (by omega) ?_
  refine J_aload_n (pc1 := 98) rfl (i := 0) rfl dX10_plays_97 rfl ?_
  refine J_get (pc1 := 101) (j := 0) inUX10 (ci := 10) rfl (by decide) lf_X10_7 dX10_plays_98 rfl ((pu_ne _ _ (ne_OI W.1 W.2.1)).trans W.1) rfl ?_
  refine J_bipush (pc1 := 103) (by decide) dX10_plays_101 rfl ?_
  refine J_iload_n (pc1 := 104) rfl (i := 3) rfl dX10_plays_103 rfl ?_
  refine J_iadd (pc1 := 105) dX10_plays_104 rfl ?_
  refine J_dup2 (pc1 := 106) rfl rfl dX10_plays_105 rfl ?_
  refine J_iald (pc1 := 107) dX10_plays_106 rfl (pu_self _ _ _) (by omega) (by omega) (by omega) ?_
  refine J_iload (pc1 := 109) rfl dX10_plays_107 rfl ?_
  refine J_iadd (pc1 := 110) dX10_plays_109 rfl ?_
  refine J_iast (pc1 := 111) dX10_plays_110 rfl (pu_self _ _ _) (by omega) (by omega) (by omega) ?_
  rw [pu_pu]
  refine J_aload_n (pc1 := 112) rfl (i := 0) rfl dX10_plays_111 rfl ?_
  refine J_get (pc1 := 115) (j := 0) inUX10 (ci := 10) rfl (by decide) lf_X10_7 dX10_plays_112 rfl ((pu_ne _ _ (ne_OI W.1 W.2.1)).trans W.1) rfl ?_
  refine J_bipush (pc1 := 117) (by decide) dX10_plays_115 rfl ?_
  refine J_iload_n (pc1 := 118) rfl (i := 3) rfl dX10_plays_117 rfl ?_
  refine J_iadd (pc1 := 119) dX10_plays_118 rfl ?_
  refine J_dup2 (pc1 := 120) rfl rfl dX10_plays_119 rfl ?_
  refine J_iald (pc1 := 121) dX10_plays_120 rfl (pu_self _ _ _) (by omega) (by omega) (by omega) ?_
  refine J_iconst (pc1 := 122) dX10_plays_121 rfl ?_
  refine J_iadd (pc1 := 123) dX10_plays_122 rfl ?_
  refine J_iast (pc1 := 124) dX10_plays_123 rfl (pu_self _ _ _) (by omega) (by omega) (by omega) ?_
  rw [pu_pu]
  refine J_aload_n (pc1 := 125) rfl (i := 0) rfl dX10_plays_124 rfl ?_
  refine J_get (pc1 := 128) (j := 0) inUX10 (ci := 10) rfl (by decide) lf_X10_7 dX10_plays_125 rfl ((pu_ne _ _ (ne_OI W.1 W.2.1)).trans W.1) rfl ?_
  refine J_iconst (pc1 := 129) dX10_plays_128 rfl ?_
  refine J_dup2 (pc1 := 130) rfl rfl dX10_plays_129 rfl ?_
  refine J_iald (pc1 := 131) dX10_plays_130 rfl (pu_self _ _ _) (by omega) (by omega) (by omega) ?_
  refine J_iload_n (pc1 := 132) rfl (i := 3) rfl dX10_plays_131 rfl ?_
  refine J_if_ne (pc1 := 135) (tgt := 139) (by omega) (by omega) dX10_plays_132 rfl rfl (fun hc1 => ?_) (fun hc1 => ?_)
  · refine J_iconst (pc1 := 140) dX10_plays_139 rfl ?_
    refine J_st (st1 := [.int (iI (if tk = 0 then 1 else -1)), .int (iI ((uZ (uZ (uZ f 17 (x + sp9)) (11 + tk) (((uZ f 17 (x + sp9)) (11 + tk)) + py)) (13 + tk) (((uZ (uZ f 17 (x + sp9)) (11 + tk) (((uZ f 17 (x + sp9)) (11 + tk)) + py)) (13 + tk)) + 1)) 4)), .int (iI 4), .ref (B 1)]) (by rw [show (if tk = 0 then 1 else -1) = -1 by first | rw [if_pos (by omega)] | rw [if_neg (by omega)]]) ?_
    exact k _ ⟨((pu_ne _ _ (ne_OI W.1 W.2.1)).trans W.1), (pu_self _ _ _), ((pu_ne _ _ (ne_II W.2.2.1 W.2.1 (by decide))).trans W.2.2.1), ((pu_ne _ _ (ne_II W.2.2.2.1 W.2.1 (by decide))).trans W.2.2.2.1), ((pu_ne _ _ (ne_II W.2.2.2.2.1 W.2.1 (by decide))).trans W.2.2.2.2.1), ((pu_ne _ _ (ne_II W.2.2.2.2.2.1 W.2.1 (by decide))).trans W.2.2.2.2.2.1), ((pu_ne _ _ (ne_II W.2.2.2.2.2.2.1 W.2.1 (by decide))).trans W.2.2.2.2.2.2.1), ((pu_ne _ _ (ne_II W.2.2.2.2.2.2.2 W.2.1 (by decide))).trans W.2.2.2.2.2.2.2)⟩ (fun x h0 h1 h2 h3 h4 h5 h6 h7 => (pu_ne _ _ h1))
  · refine J_iconst (pc1 := 136) dX10_plays_135 rfl ?_
    refine J_goto (tgt := 140) dX10_plays_136 rfl ?_
    refine J_st (st1 := [.int (iI (if tk = 0 then 1 else -1)), .int (iI ((uZ (uZ (uZ f 17 (x + sp9)) (11 + tk) (((uZ f 17 (x + sp9)) (11 + tk)) + py)) (13 + tk) (((uZ (uZ f 17 (x + sp9)) (11 + tk) (((uZ f 17 (x + sp9)) (11 + tk)) + py)) (13 + tk)) + 1)) 4)), .int (iI 4), .ref (B 1)]) (by rw [show (if tk = 0 then 1 else -1) = 1 by first | rw [if_pos (by omega)] | rw [if_neg (by omega)]]) ?_
    exact k _ ⟨((pu_ne _ _ (ne_OI W.1 W.2.1)).trans W.1), (pu_self _ _ _), ((pu_ne _ _ (ne_II W.2.2.1 W.2.1 (by decide))).trans W.2.2.1), ((pu_ne _ _ (ne_II W.2.2.2.1 W.2.1 (by decide))).trans W.2.2.2.1), ((pu_ne _ _ (ne_II W.2.2.2.2.1 W.2.1 (by decide))).trans W.2.2.2.2.1), ((pu_ne _ _ (ne_II W.2.2.2.2.2.1 W.2.1 (by decide))).trans W.2.2.2.2.2.1), ((pu_ne _ _ (ne_II W.2.2.2.2.2.2.1 W.2.1 (by decide))).trans W.2.2.2.2.2.2.1), ((pu_ne _ _ (ne_II W.2.2.2.2.2.2.2 W.2.1 (by decide))).trans W.2.2.2.2.2.2.2)⟩ (fun x h0 h1 h2 h3 h4 h5 h6 h7 => (pu_ne _ _ h1))
set_option maxHeartbeats 1000000 in
set_option maxRecDepth 20000 in
theorem pl_E {S : pS} {B : Nat → Nat} {f hs sl sv ti tx to : Int → Int} {n ik kr ks L sp nu rd : Int} (W : MW S B f hs sl sv ti tx to n ik kr ks L sp nu rd) {K : Option Value → pS → Prop} {b a tk py : Int} (htk : tk = 0 ∨ tk = 1) {x dh : Int} (e0 : 0 ≤ f 0 ∧ f 0 ≤ 1000) (e4 : -1000 ≤ x + dh ∧ x + dh ≤ 1000) (k : ∀ T, MW T B (uZ (uZ (uZ f 4 (x + dh)) 5 (1 - ((uZ f 4 (x + dh)) 5))) 6 (((uZ (uZ f 4 (x + dh)) 5 (1 - ((uZ f 4 (x + dh)) 5))) 6) + 1)) hs sl sv ti tx to n ik kr ks L sp nu rd → frM S T B → Jd yX10_plays cX10_plays 6 (Option.some FieldType.int) 1 0 0 K 0 0 T 179 [some (.ref (B 0)), some (.int (iI b)), some (.int (iI a)), some (.int (iI tk)), some (.int (iI py)), some (.int (iI (wiE ((uZ (uZ (uZ f 4 (x + dh)) 5 (1 - uZ f 4 (x + dh) 5)) 6 (uZ (uZ f 4 (x + dh)) 5 (1 - uZ f 4 (x + dh) 5) 6 + 1)) 0) ((uZ (uZ (uZ f 4 (x + dh)) 5 (1 - uZ f 4 (x + dh) 5)) 6 (uZ (uZ f 4 (x + dh)) 5 (1 - uZ f 4 (x + dh) 5) 6 + 1)) 4))))] []) : Jd yX10_plays cX10_plays 6 (Option.some FieldType.int) 1 0 0 K 0 0 S 140 [some (.ref (B 0)), some (.int (iI b)), some (.int (iI a)), some (.int (iI tk)), some (.int (iI py)), none] [.int (iI dh), .int (iI x), .int (iI 4), .ref (B 1)] := by
  have e9 : (uZ (uZ (uZ f 4 (x + dh)) 5 (1 - uZ f 4 (x + dh) 5)) 6 (uZ (uZ f 4 (x + dh)) 5 (1 - uZ f 4 (x + dh) 5) 6 + 1)) 0 = f 0 := rfl
  have e8 : (uZ (uZ (uZ f 4 (x + dh)) 5 (1 - uZ f 4 (x + dh) 5)) 6 (uZ (uZ f 4 (x + dh)) 5 (1 - uZ f 4 (x + dh) 5) 6 + 1)) 4 = x + dh := rfl
  show Jd yX10_plays cX10_plays 6 (Option.some FieldType.int) 1 0 0 K 0 0 S 140 [some (.ref (B 0)), some (.int (iI b)), some (.int (iI a)), some (.int (iI tk)), some (.int (iI py)), none] [.int (iI dh), .int (iI x), .int (iI 4), .ref (B 1)]
  refine J_iadd (pc1 := 141) dX10_plays_140 rfl ?_
  refine J_iast (pc1 := 142) dX10_plays_141 rfl W.2.1 (by omega) (by omega) (by omega) ?_
  refine J_aload_n (pc1 := 143) rfl (i := 0) rfl dX10_plays_142 rfl ?_
  refine J_get (pc1 := 146) (j := 0) inUX10 (ci := 10) rfl (by decide) lf_X10_7 dX10_plays_143 rfl ((pu_ne _ _ (ne_OI W.1 W.2.1)).trans W.1) rfl ?_
  refine J_iconst (pc1 := 147) dX10_plays_146 rfl ?_
  refine J_iconst (pc1 := 148) dX10_plays_147 rfl ?_
  refine J_aload_n (pc1 := 149) rfl (i := 0) rfl dX10_plays_148 rfl ?_
  refine J_get (pc1 := 152) (j := 0) inUX10 (ci := 10) rfl (by decide) lf_X10_7 dX10_plays_149 rfl ((pu_ne _ _ (ne_OI W.1 W.2.1)).trans W.1) rfl ?_
  refine J_iconst (pc1 := 153) dX10_plays_152 rfl ?_
  refine J_iald (pc1 := 154) dX10_plays_153 rfl (pu_self _ _ _) (by omega) (by omega) (by omega) ?_
  refine J_isub (pc1 := 155) dX10_plays_154 rfl ?_
  refine J_iast (pc1 := 156) dX10_plays_155 rfl (pu_self _ _ _) (by omega) (by omega) (by omega) ?_
  rw [pu_pu]
  refine J_aload_n (pc1 := 157) rfl (i := 0) rfl dX10_plays_156 rfl ?_
  refine J_get (pc1 := 160) (j := 0) inUX10 (ci := 10) rfl (by decide) lf_X10_7 dX10_plays_157 rfl ((pu_ne _ _ (ne_OI W.1 W.2.1)).trans W.1) rfl ?_
  refine J_bipush (pc1 := 162) (by decide) dX10_plays_160 rfl ?_
  refine J_dup2 (pc1 := 163) rfl rfl dX10_plays_162 rfl ?_
  refine J_iald (pc1 := 164) dX10_plays_163 rfl (pu_self _ _ _) (by omega) (by omega) (by omega) ?_
  refine J_iconst (pc1 := 165) dX10_plays_164 rfl ?_
  refine J_iadd (pc1 := 166) dX10_plays_165 rfl ?_
  refine J_iast (pc1 := 167) dX10_plays_166 rfl (pu_self _ _ _) (by omega) (by omega) (by omega) ?_
  rw [pu_pu]
  refine J_aload_n (pc1 := 168) rfl (i := 0) rfl dX10_plays_167 rfl ?_
  refine J_aload_n (pc1 := 169) rfl (i := 0) rfl dX10_plays_168 rfl ?_
  refine J_get (pc1 := 172) (j := 0) inUX10 (ci := 10) rfl (by decide) lf_X10_7 dX10_plays_169 rfl ((pu_ne _ _ (ne_OI W.1 W.2.1)).trans W.1) rfl ?_
  refine J_iconst (pc1 := 173) dX10_plays_172 rfl ?_
  refine J_iald (pc1 := 174) dX10_plays_173 rfl (pu_self _ _ _) (by omega) (by omega) (by omega) ?_
  refine J_callVI (pc1 := 177) (As := [.int (iI ((uZ (uZ (uZ f 4 (x + dh)) 5 (1 - ((uZ f 4 (x + dh)) 5))) 6 (((uZ (uZ f 4 (x + dh)) 5 (1 - ((uZ f 4 (x + dh)) 5))) 6) + 1)) 4))]) gv_X10_38 yv_X10_winnerAt rfl (c_X10_winnerAt ⟨((pu_ne _ _ (ne_OI W.1 W.2.1)).trans W.1), (pu_self _ _ _), ((pu_ne _ _ (ne_II W.2.2.1 W.2.1 (by decide))).trans W.2.2.1), ((pu_ne _ _ (ne_II W.2.2.2.1 W.2.1 (by decide))).trans W.2.2.2.1), ((pu_ne _ _ (ne_II W.2.2.2.2.1 W.2.1 (by decide))).trans W.2.2.2.2.1), ((pu_ne _ _ (ne_II W.2.2.2.2.2.1 W.2.1 (by decide))).trans W.2.2.2.2.2.1), ((pu_ne _ _ (ne_II W.2.2.2.2.2.2.1 W.2.1 (by decide))).trans W.2.2.2.2.2.2.1), ((pu_ne _ _ (ne_II W.2.2.2.2.2.2.2 W.2.1 (by decide))).trans W.2.2.2.2.2.2.2)⟩ (h := (uZ (uZ (uZ f 4 (x + dh)) 5 (1 - ((uZ f 4 (x + dh)) 5))) 6 (((uZ (uZ f 4 (x + dh)) 5 (1 - ((uZ f 4 (x + dh)) 5))) 6) + 1)) 4) (by omega) (by omega)) dX10_plays_174 rfl ((pu_ne _ _ (ne_OI W.1 W.2.1)).trans W.1) rfl rfl (by omega) (by decide) (by omega) (by omega) (Nat.le_of_ble_eq_true rfl) ?_
  refine J_istore (pc1 := 179) (L1 := [some (.ref (B 0)), some (.int (iI b)), some (.int (iI a)), some (.int (iI tk)), some (.int (iI py)), some (.int (iI (wiE ((uZ (uZ (uZ f 4 (x + dh)) 5 (1 - ((uZ f 4 (x + dh)) 5))) 6 (((uZ (uZ f 4 (x + dh)) 5 (1 - ((uZ f 4 (x + dh)) 5))) 6) + 1)) 0) ((uZ (uZ (uZ f 4 (x + dh)) 5 (1 - ((uZ f 4 (x + dh)) 5))) 6 (((uZ (uZ f 4 (x + dh)) 5 (1 - ((uZ f 4 (x + dh)) 5))) 6) + 1)) 4))))]) dX10_plays_177 rfl (by decide) rfl rfl ?_
  refine J_L (L1 := [some (.ref (B 0)), some (.int (iI b)), some (.int (iI a)), some (.int (iI tk)), some (.int (iI py)), some (.int (iI (wiE ((uZ (uZ (uZ f 4 (x + dh)) 5 (1 - uZ f 4 (x + dh) 5)) 6 (uZ (uZ f 4 (x + dh)) 5 (1 - uZ f 4 (x + dh) 5) 6 + 1)) 0) ((uZ (uZ (uZ f 4 (x + dh)) 5 (1 - uZ f 4 (x + dh) 5)) 6 (uZ (uZ f 4 (x + dh)) 5 (1 - uZ f 4 (x + dh) 5) 6 + 1)) 4))))]) (by first | rfl | (congr 1; done)) ?_
  exact k _ ⟨((pu_ne _ _ (ne_OI W.1 W.2.1)).trans W.1), (pu_self _ _ _), ((pu_ne _ _ (ne_II W.2.2.1 W.2.1 (by decide))).trans W.2.2.1), ((pu_ne _ _ (ne_II W.2.2.2.1 W.2.1 (by decide))).trans W.2.2.2.1), ((pu_ne _ _ (ne_II W.2.2.2.2.1 W.2.1 (by decide))).trans W.2.2.2.2.1), ((pu_ne _ _ (ne_II W.2.2.2.2.2.1 W.2.1 (by decide))).trans W.2.2.2.2.2.1), ((pu_ne _ _ (ne_II W.2.2.2.2.2.2.1 W.2.1 (by decide))).trans W.2.2.2.2.2.2.1), ((pu_ne _ _ (ne_II W.2.2.2.2.2.2.2 W.2.1 (by decide))).trans W.2.2.2.2.2.2.2)⟩ (fun x h0 h1 h2 h3 h4 h5 h6 h7 => (pu_ne _ _ h1))
set_option maxHeartbeats 1000000 in
set_option maxRecDepth 20000 in
theorem pl_F0 {S : pS} {B : Nat → Nat} {f hs sl sv ti tx to : Int → Int} {n ik kr ks L sp nu rd : Int} (W : MW S B f hs sl sv ti tx to n ik kr ks L sp nu rd) {K : Option Value → pS → Prop} {b a tk py : Int} (htk : tk = 0 ∨ tk = 1) {w : Int} (hw : w = -1006) (k : ∀ T, MW T B f hs sl sv ti tx to n ik kr ks L sp nu rd → frM S T B → Jd yX10_plays cX10_plays 6 (Option.some FieldType.int) 1 0 0 K 0 0 T 212 [some (.ref (B 0)), some (.int (iI b)), some (.int (iI a)), some (.int (iI tk)), some (.int (iI py)), some (.int (iI w))] []) : Jd yX10_plays cX10_plays 6 (Option.some FieldType.int) 1 0 0 K 0 0 S 179 [some (.ref (B 0)), some (.int (iI b)), some (.int (iI a)), some (.int (iI tk)), some (.int (iI py)), some (.int (iI w))] [] := by
  show Jd yX10_plays cX10_plays 6 (Option.some FieldType.int) 1 0 0 K 0 0 S 179 [some (.ref (B 0)), some (.int (iI b)), some (.int (iI a)), some (.int (iI tk)), some (.int (iI py)), some (.int (iI w))] []
  refine J_iload (pc1 := 181) rfl dX10_plays_179 rfl ?_
  refine J_sipush (pc1 := 184) (by decide) dX10_plays_181 rfl ?_
  refine J_icmp_eq (pc1 := 187) (tgt := 212) (by omega) (by omega) (by decide) (by decide) dX10_plays_184 rfl rfl (fun hc1 => ?_) (fun hc1 => ?_)
  · exact k _ ⟨W.1, W.2.1, W.2.2.1, W.2.2.2.1, W.2.2.2.2.1, W.2.2.2.2.2.1, W.2.2.2.2.2.2.1, W.2.2.2.2.2.2.2⟩ (fun x h0 h1 h2 h3 h4 h5 h6 h7 => rfl)
  · exact absurd hw hc1
set_option maxHeartbeats 1000000 in
set_option maxRecDepth 20000 in
theorem pl_F1 {S : pS} {B : Nat → Nat} {f hs sl sv ti tx to : Int → Int} {n ik kr ks L sp nu rd : Int} (W : MW S B f hs sl sv ti tx to n ik kr ks L sp nu rd) {K : Option Value → pS → Prop} {b a tk py : Int} (htk : tk = 0 ∨ tk = 1) {w : Int} (hw : w = 0 ∨ w = 1) (k : ∀ T, MW T B (uZ (uZ f (15 + w) ((f (15 + w)) + 1)) 18 (((uZ f (15 + w) ((f (15 + w)) + 1)) 18) + 1)) hs sl sv ti tx to n ik kr ks L sp nu rd → frM S T B → Jd yX10_plays cX10_plays 6 (Option.some FieldType.int) 1 0 0 K 0 0 T 212 [some (.ref (B 0)), some (.int (iI b)), some (.int (iI a)), some (.int (iI tk)), some (.int (iI py)), some (.int (iI w))] []) : Jd yX10_plays cX10_plays 6 (Option.some FieldType.int) 1 0 0 K 0 0 S 179 [some (.ref (B 0)), some (.int (iI b)), some (.int (iI a)), some (.int (iI tk)), some (.int (iI py)), some (.int (iI w))] [] := by
  show Jd yX10_plays cX10_plays 6 (Option.some FieldType.int) 1 0 0 K 0 0 S 179 [some (.ref (B 0)), some (.int (iI b)), some (.int (iI a)), some (.int (iI tk)), some (.int (iI py)), some (.int (iI w))] []
  refine J_iload (pc1 := 181) rfl dX10_plays_179 rfl ?_
  refine J_sipush (pc1 := 184) (by decide) dX10_plays_181 rfl ?_
  refine J_icmp_eq (pc1 := 187) (tgt := 212) (by omega) (by omega) (by decide) (by decide) dX10_plays_184 rfl rfl (fun hc1 => ?_) (fun hc1 => ?_)
  · exact absurd hc1 (by omega)
  · refine J_aload_n (pc1 := 188) rfl (i := 0) rfl dX10_plays_187 rfl ?_
    refine J_get (pc1 := 191) (j := 0) inUX10 (ci := 10) rfl (by decide) lf_X10_7 dX10_plays_188 rfl W.1 rfl ?_
    refine J_bipush (pc1 := 193) (by decide) dX10_plays_191 rfl ?_
    refine J_iload (pc1 := 195) rfl dX10_plays_193 rfl ?_
    refine J_iadd (pc1 := 196) dX10_plays_195 rfl ?_
    refine J_dup2 (pc1 := 197) rfl rfl dX10_plays_196 rfl ?_
    refine J_iald (pc1 := 198) dX10_plays_197 rfl W.2.1 (by omega) (by omega) (by omega) ?_
    refine J_iconst (pc1 := 199) dX10_plays_198 rfl ?_
    refine J_iadd (pc1 := 200) dX10_plays_199 rfl ?_
    refine J_iast (pc1 := 201) dX10_plays_200 rfl W.2.1 (by omega) (by omega) (by omega) ?_
    refine J_aload_n (pc1 := 202) rfl (i := 0) rfl dX10_plays_201 rfl ?_
    refine J_get (pc1 := 205) (j := 0) inUX10 (ci := 10) rfl (by decide) lf_X10_7 dX10_plays_202 rfl ((pu_ne _ _ (ne_OI W.1 W.2.1)).trans W.1) rfl ?_
    refine J_bipush (pc1 := 207) (by decide) dX10_plays_205 rfl ?_
    refine J_dup2 (pc1 := 208) rfl rfl dX10_plays_207 rfl ?_
    refine J_iald (pc1 := 209) dX10_plays_208 rfl (pu_self _ _ _) (by omega) (by omega) (by omega) ?_
    refine J_iconst (pc1 := 210) dX10_plays_209 rfl ?_
    refine J_iadd (pc1 := 211) dX10_plays_210 rfl ?_
    refine J_iast (pc1 := 212) dX10_plays_211 rfl (pu_self _ _ _) (by omega) (by omega) (by omega) ?_
    rw [pu_pu]
    exact k _ ⟨((pu_ne _ _ (ne_OI W.1 W.2.1)).trans W.1), (pu_self _ _ _), ((pu_ne _ _ (ne_II W.2.2.1 W.2.1 (by decide))).trans W.2.2.1), ((pu_ne _ _ (ne_II W.2.2.2.1 W.2.1 (by decide))).trans W.2.2.2.1), ((pu_ne _ _ (ne_II W.2.2.2.2.1 W.2.1 (by decide))).trans W.2.2.2.2.1), ((pu_ne _ _ (ne_II W.2.2.2.2.2.1 W.2.1 (by decide))).trans W.2.2.2.2.2.1), ((pu_ne _ _ (ne_II W.2.2.2.2.2.2.1 W.2.1 (by decide))).trans W.2.2.2.2.2.2.1), ((pu_ne _ _ (ne_II W.2.2.2.2.2.2.2 W.2.1 (by decide))).trans W.2.2.2.2.2.2.2)⟩ (fun x h0 h1 h2 h3 h4 h5 h6 h7 => (pu_ne _ _ h1))
/-- the row as the reference makes it, a step at a time -/
theorem pg_at {f g : Int → Int} {tk py ga sp dh : Int} (htk : tk = 0 ∨ tk = 1) {g1 g2 g3 g4 g5 g6 g7 : Int → Int} (q1 : g1 = uZ f (7 + tk) (f (7 + tk) - py)) (q2 : g2 = uZ g1 (8 - tk) (g1 (8 - tk) + ga)) (q3 : g3 = uZ g2 17 (g2 17 + sp)) (q4 : g4 = uZ g3 (11 + tk) (g3 (11 + tk) + py)) (q5 : g5 = uZ g4 (13 + tk) (g4 (13 + tk) + 1)) (q6 : g6 = uZ g5 4 (g5 4 + dh)) (q7 : g7 = uZ g6 5 (1 - g6 5)) (q8 : g = uZ g7 6 (g7 6 + 1)) :
    (tk = 0 → g 0 = f 0 ∧ g 1 = f 1 ∧ g 2 = f 2 ∧ g 3 = f 3 ∧ g 4 = f 4 + dh ∧ g 5 = 1 - f 5 ∧ g 6 = f 6 + 1 ∧ g 7 = f 7 - py ∧ g 8 = f 8 + ga ∧ g 9 = f 9 ∧ g 10 = f 10 ∧ g 11 = f 11 + py ∧ g 12 = f 12 ∧ g 13 = f 13 + 1 ∧ g 14 = f 14 ∧ g 15 = f 15 ∧ g 16 = f 16 ∧ g 17 = f 17 + sp ∧ g 18 = f 18) ∧ (tk = 1 → g 0 = f 0 ∧ g 1 = f 1 ∧ g 2 = f 2 ∧ g 3 = f 3 ∧ g 4 = f 4 + dh ∧ g 5 = 1 - f 5 ∧ g 6 = f 6 + 1 ∧ g 7 = f 7 + ga ∧ g 8 = f 8 - py ∧ g 9 = f 9 ∧ g 10 = f 10 ∧ g 11 = f 11 ∧ g 12 = f 12 + py ∧ g 13 = f 13 ∧ g 14 = f 14 + 1 ∧ g 15 = f 15 ∧ g 16 = f 16 ∧ g 17 = f 17 + sp ∧ g 18 = f 18) := by
  constructor
  · rintro rfl
    subst q1 q2 q3 q4 q5 q6 q7 q8
    exact ⟨rfl, rfl, rfl, rfl, rfl, rfl, rfl, rfl, rfl, rfl, rfl, rfl, rfl, rfl, rfl, rfl, rfl, rfl, rfl⟩
  · rintro rfl
    subst q1 q2 q3 q4 q5 q6 q7 q8
    exact ⟨rfl, rfl, rfl, rfl, rfl, rfl, rfl, rfl, rfl, rfl, rfl, rfl, rfl, rfl, rfl, rfl, rfl, rfl, rfl⟩
theorem pg_f0 {f g : Int → Int} {b a : Int} (ok : okF f) (h : (tkF f b a = 0 → g 0 = f 0 ∧ g 1 = f 1 ∧ g 2 = f 2 ∧ g 3 = f 3 ∧ g 4 = f 4 + (if tkF f b a = 0 then 1 else -1) ∧ g 5 = 1 - f 5 ∧ g 6 = f 6 + 1 ∧ g 7 = f 7 - prF f b a ∧ g 8 = f 8 + gaF f (prF f b a) ∧ g 9 = f 9 ∧ g 10 = f 10 ∧ g 11 = f 11 + prF f b a ∧ g 12 = f 12 ∧ g 13 = f 13 + 1 ∧ g 14 = f 14 ∧ g 15 = f 15 ∧ g 16 = f 16 ∧ g 17 = f 17 + (prF f b a - gaF f (prF f b a)) ∧ g 18 = f 18) ∧ (tkF f b a = 1 → g 0 = f 0 ∧ g 1 = f 1 ∧ g 2 = f 2 ∧ g 3 = f 3 ∧ g 4 = f 4 + (if tkF f b a = 0 then 1 else -1) ∧ g 5 = 1 - f 5 ∧ g 6 = f 6 + 1 ∧ g 7 = f 7 + gaF f (prF f b a) ∧ g 8 = f 8 - prF f b a ∧ g 9 = f 9 ∧ g 10 = f 10 ∧ g 11 = f 11 ∧ g 12 = f 12 + prF f b a ∧ g 13 = f 13 ∧ g 14 = f 14 + 1 ∧ g 15 = f 15 ∧ g 16 = f 16 ∧ g 17 = f 17 + (prF f b a - gaF f (prF f b a)) ∧ g 18 = f 18)) (hal : alF f b a) :
    (winE (f 0) (hdF f b a) = wiE (g 0) (g 4)) ∧ (wiE (g 0) (g 4) = -1006 → ∀ k, 0 ≤ k → k < 19 → g k = plF f b a k) ∧ (∀ w, wiE (g 0) (g 4) = w → w = 0 ∨ w = 1 → ∀ k, 0 ≤ k → k < 19 → uZ (uZ g (15 + w) (g (15 + w) + 1)) 18 (uZ g (15 + w) (g (15 + w) + 1) 18 + 1) k = plF f b a k) := by
  have hw := hal.1
  obtain ⟨o0, o1, o2, o3, o4, o5, o7, o9, o10, o12, o13, o18⟩ := ok
  have h4 : -f 0 < f 4 ∧ f 4 < f 0 := by
    have hw : winE (f 0) (f 4) = -1006 := hw
    unfold winE at hw
    (repeat' split at hw) <;> omega
  rcases (show tkF f b a = 0 ∨ tkF f b a = 1 by unfold tkF; split <;> omega) with ht | ht
  · obtain ⟨g0, g1, g2, g3, g4, g5, g6, g7, g8, g9, g10, g11, g12, g13, g14, g15, g16, g17, g18⟩ := h.1 ht
    obtain ⟨p0, p1, p2, p3, p4, p5, p6, p7, p8, p9, p10, p11, p12, p13, p14, p15, p16, p17, p18⟩ := plF_at0 ht
    rw [if_pos ht] at g4
    have e : wiE (g 0) (g 4) = winE (f 0) (f 4 + 1) := by rw [g0, g4]; exact wiE_w (by omega) (by omega)
    have hh : hdF f b a = f 4 + 1 := by unfold hdF; rw [ht]; rfl
    have e3 : winE (f 0) (f 4 + 1) = -1006 ∨ winE (f 0) (f 4 + 1) = 0 := by unfold winE; (repeat' split) <;> omega
    refine ⟨by rw [hh, e], fun hn => ?_, fun w hw1 hw2 => ?_⟩
    · rw [e] at hn
      rw [if_pos hn] at p15 p18
      exact c19 (g0.trans p0.symm) (g1.trans p1.symm) (g2.trans p2.symm) (g3.trans p3.symm) (g4.trans p4.symm) (g5.trans p5.symm) (g6.trans p6.symm) (g7.trans p7.symm) (g8.trans p8.symm) (g9.trans p9.symm) (g10.trans p10.symm) (g11.trans p11.symm) (g12.trans p12.symm) (g13.trans p13.symm) (g14.trans p14.symm) (by omega) (g16.trans p16.symm) (g17.trans p17.symm) (by omega)
    · rw [e] at hw1
      have w0 : w = 0 := by omega
      subst w0
      rw [if_neg (by omega)] at p15 p18
      exact c19 (g0.trans p0.symm) (g1.trans p1.symm) (g2.trans p2.symm) (g3.trans p3.symm) (g4.trans p4.symm) (g5.trans p5.symm) (g6.trans p6.symm) (g7.trans p7.symm) (g8.trans p8.symm) (g9.trans p9.symm) (g10.trans p10.symm) (g11.trans p11.symm) (g12.trans p12.symm) (g13.trans p13.symm) (g14.trans p14.symm) ((show _ = g 15 + 1 from rfl).trans (by omega)) (g16.trans p16.symm) (g17.trans p17.symm) ((show _ = g 18 + 1 from rfl).trans (by omega))
  · obtain ⟨g0, g1, g2, g3, g4, g5, g6, g7, g8, g9, g10, g11, g12, g13, g14, g15, g16, g17, g18⟩ := h.2 ht
    obtain ⟨p0, p1, p2, p3, p4, p5, p6, p7, p8, p9, p10, p11, p12, p13, p14, p15, p16, p17, p18⟩ := plF_at1 ht
    rw [if_neg (by omega)] at g4
    have e : wiE (g 0) (g 4) = winE (f 0) (f 4 + -1) := by rw [g0, g4]; exact wiE_w (by omega) (by omega)
    have hh : hdF f b a = f 4 + -1 := by unfold hdF; rw [ht]; rfl
    have e3 : winE (f 0) (f 4 + -1) = -1006 ∨ winE (f 0) (f 4 + -1) = 1 := by unfold winE; (repeat' split) <;> omega
    refine ⟨by rw [hh, e], fun hn => ?_, fun w hw1 hw2 => ?_⟩
    · rw [e] at hn
      rw [if_pos hn] at p16 p18
      exact c19 (g0.trans p0.symm) (g1.trans p1.symm) (g2.trans p2.symm) (g3.trans p3.symm) (g4.trans p4.symm) (g5.trans p5.symm) (g6.trans p6.symm) (g7.trans p7.symm) (g8.trans p8.symm) (g9.trans p9.symm) (g10.trans p10.symm) (g11.trans p11.symm) (g12.trans p12.symm) (g13.trans p13.symm) (g14.trans p14.symm) (g15.trans p15.symm) (by omega) (g17.trans p17.symm) (by omega)
    · rw [e] at hw1
      have w0 : w = 1 := by omega
      subst w0
      rw [if_neg (by omega)] at p16 p18
      exact c19 (g0.trans p0.symm) (g1.trans p1.symm) (g2.trans p2.symm) (g3.trans p3.symm) (g4.trans p4.symm) (g5.trans p5.symm) (g6.trans p6.symm) (g7.trans p7.symm) (g8.trans p8.symm) (g9.trans p9.symm) (g10.trans p10.symm) (g11.trans p11.symm) (g12.trans p12.symm) (g13.trans p13.symm) (g14.trans p14.symm) (g15.trans p15.symm) ((show _ = g 16 + 1 from rfl).trans (by omega)) (g17.trans p17.symm) ((show _ = g 18 + 1 from rfl).trans (by omega))

set_option maxHeartbeats 4000000 in
theorem c_X10_plays {S : pS} {B : Nat → Nat} {f hs sl sv ti tx to : Int → Int} {n ik kr ks L sp nu rd : Int} (W : MW S B f hs sl sv ti tx to n ik kr ks L sp nu rd) (ok : okF f) {b a : Int} (hb : 0 ≤ b ∧ b ≤ 1000) (ha : 0 ≤ a ∧ a ≤ 1000) (hal : alF f b a) : Ct yX10_plays cX10_plays 6 (Option.some FieldType.int) 1 0 0 [.ref (B 0), .int (iI b), .int (iI a)] S (kIS (tkF f b a) (fun T => MW T B (plF f b a) hs sl sv ti tx to n ik kr ks L sp nu rd ∧ frM S T B)) := by
  refine Ct.ofJ (by decide +kernel) (Nat.le_of_ble_eq_true rfl) ?_
  refine J_L (L1 := [some (.ref (B 0)), some (.int (iI b)), some (.int (iI a)), none, none, none]) rfl ?_
  have ht := tkF_b ok b a
  have h2 := ok.2.2.1
  have h0 := ok.1
  have h4 := ok.2.2.2.2.1
  refine pl_A W hb ha ok (fun T1 W1 r1 => ?_)
  refine pl_B W1 ht rfl h2 (fun T2 W2 r2 => ?_)
  refine pl_C W2 ht (ps := f 2) (uZ_n (by omega)) h2 (fun T3 W3 r3 => ?_)
  refine pl_D W3 ht (fun T4 W4 r4 => ?_)
  have Q := pg_at (f := f) (py := prF f b a) (ga := gaE (f 2) (prF f b a)) (sp := prF f b a - gaE (f 2) (prF f b a)) (dh := if tkF f b a = 0 then 1 else -1) ht rfl rfl rfl rfl rfl rfl rfl rfl
  have P := pg_f0 ok Q hal
  have q0 : ∀ g : Int → Int, g 0 = f 0 → 0 ≤ g 0 ∧ g 0 ≤ 1000 := fun g e => by omega
  refine pl_E W4 ht ?_ ?_ (fun T5 W5 r5 => ?_)
  · rcases ht with q | q
    · have := (Q.1 q).1
      exact q0 _ this
    · have := (Q.2 q).1
      exact q0 _ this
  · rcases ht with q | q
    · have := (Q.1 q).2.2.2.2.1
      refine (show ∀ z : Int, z = f 4 + (if tkF f b a = 0 then 1 else -1) → -1000 ≤ z ∧ z ≤ 1000 from fun z e => by rw [if_pos q] at e; omega) _ this
    · have := (Q.2 q).2.2.2.2.1
      refine (show ∀ z : Int, z = f 4 + (if tkF f b a = 0 then 1 else -1) → -1000 ≤ z ∧ z ≤ 1000 from fun z e => by rw [if_neg (by omega)] at e; omega) _ this
  have fin : ∀ {w : Int} {S1 : pS} {g : Int → Int}, MW S1 B g hs sl sv ti tx to n ik kr ks L sp nu rd → frM S S1 B → (∀ k, 0 ≤ k → k < 19 → g k = plF f b a k) → Jd yX10_plays cX10_plays 6 (Option.some FieldType.int) 1 0 0 (kIS (tkF f b a) (fun T => MW T B (plF f b a) hs sl sv ti tx to n ik kr ks L sp nu rd ∧ frM S T B)) 0 0 S1 212 [some (.ref (B 0)), some (.int (iI b)), some (.int (iI a)), some (.int (iI (tkF f b a))), some (.int (iI (prF f b a))), some (.int (iI w))] [] := fun WW rr hg => by
    refine J_all WW _ hg (fun T7 W7 r7 => ?_)
    refine J_iload_n (pc1 := 213) rfl (i := 3) rfl dX10_plays_212 rfl ?_
    exact J_iret rfl rfl dX10_plays_213 (Nat.le_refl _) (Nat.le_refl _) ⟨rfl, W7, frM.tr rr r7⟩
  have rr := frM.tr (frM.tr (frM.tr (frM.tr r1 r2) r3) r4) r5
  rcases wiE_b _ _ with hw | hw | hw
  · refine pl_F1 W5 ht (Or.inl hw) (fun T6 W6 r6 => ?_)
    exact fin W6 (frM.tr rr r6) (P.2.2 _ rfl (Or.inl hw))
  · refine pl_F1 W5 ht (Or.inr hw) (fun T6 W6 r6 => ?_)
    exact fin W6 (frM.tr rr r6) (P.2.2 _ rfl (Or.inr hw))
  · refine pl_F0 W5 ht hw (fun T6 W6 r6 => ?_)
    exact fin W6 (frM.tr rr r6) (P.2.1 hw)
