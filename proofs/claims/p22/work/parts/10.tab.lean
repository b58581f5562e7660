/-! 10.tab: learnAll, the making of a table -/
theorem J_st {y : MethodName} {cc : ByteArray} {nL : Nat} {rt : Option FieldType} {d tc ts : Nat} {K : Option Value → pS → Prop} {c0 s0 : Nat} {S : pS} {pc : Nat} {L : List (Option Value)} {st st1 : List Value} (h : st = st1) (k : Jd y cc nL rt d tc ts K c0 s0 S pc L st1) : Jd y cc nL rt d tc ts K c0 s0 S pc L st := by rw [h]; exact k
theorem J_cong {y : MethodName} {cc : ByteArray} {nL : Nat} {rt : Option FieldType} {d tc ts : Nat} {K : Option Value → pS → Prop} {c0 s0 : Nat} {S : pS} {pc : Nat} {L : List (Option Value)} {st : List Value} {a n : Nat} {f g : Nat → Int32} (h : S a = some (oI n f)) (hfg : ∀ i, i < n → f i = g i) (k : Jd y cc nL rt d tc ts K c0 s0 (pu S a (oI n g)) pc L st) : Jd y cc nL rt d tc ts K c0 s0 S pc L st := by
  intro p l e R s m args below meth c D q A Q C hR H locs ls hP hS hl
  refine k p l e R s m args below meth c D q A Q C hR H locs ls ?_ hS hl
  obtain ⟨L1, f1, k1, g1, g2, g3, g4, -⟩ := hP.at h
  refine g4 (oI n g) H (g1.set g2 g3 ?_ (fun _ _ => rfl)) (g2.set g3)
  have h1 := g1 k1 _ g3
  show H[a]? = some (vp_cell q.1 (n, .inl g))
  have h2 : H[a]? = some (vp_cell q.1 (n, .inl f)) := h1
  rw [h2]
  show some (arrV q.1 n (fun j => Value.int (f j))) = some (arrV q.1 n (fun j => Value.int (g j)))
  have e : (fun j : Fin n => Value.int (f j.val)) = fun j : Fin n => Value.int (g j.val) := funext fun j => congrArg Value.int (hfg j.val j.isLt)
  unfold arrV
  rw [e]
def KLA (S : pS) (E ti ps top : Int) (w n tm : Nat) : pS → Prop := fun S' => ∃ (g : Int → Int), S' = pu S tm (aI n g) ∧ (∀ x, 0 ≤ g x ∧ g x ≤ 9) ∧ aB E ti ps top w 8 g
set_option maxHeartbeats 1000000 in
set_option maxRecDepth 20000 in
theorem c_X8_learnAll {S : pS} {t ow fo tm w n : Nat} {E ti ps top : Int} {tg : Int → Int} (T : TbS S t E ti ps top ow fo tm w n tg) (d1 : ow ≠ tm) (d2 : fo ≠ tm) (ha0 : aB E ti ps top w 0 tg) : Ct yX8_learnAll cX8_learnAll 3 none 4 0 0 [.ref t] S (kNS (KLA S E ti ps top w n tm)) := by
  obtain ⟨n1, n2, n3, n4, n5, n6, n7⟩ := T.2.2.2.2.2
  obtain ⟨w1, w2, w3, w4, w5, w6⟩ := tbN_w T.2.2.2.2.2
  have hg := T.2.2.2.2.1
  refine Ct.ofJ (by decide +kernel) (Nat.le_of_ble_eq_true rfl) ?_
  refine J_L (L1 := [some (.ref t), none, none]) rfl ?_
  have LP : ∀ (n9 k : Nat) (g : Int → Int) (M : Prop), k ≤ 8 → (∀ x, 0 ≤ g x ∧ g x ≤ 9) → aB E ti ps top w k g → (¬ M → aB E ti ps top w 8 g) → 8 - k < n9 → Jd yX8_learnAll cX8_learnAll 3 none 4 0 0 (kNS (KLA S E ti ps top w n tm)) 0 0 (pu S tm (aI n g)) 4 [some (.ref t), some (.int (iI (bC M))), some (.int (iI ((k : Int) + 1)))] [] := by
    intro n9
    induction n9 with
    | zero => intro k g M k1 hg2 ha hM hn; omega
    | succ n9 ih =>
      intro k g M k1 hg2 ha hM hn
      have T2 := TbS_pu T d1 d2 hg2
      refine J_iload_n (pc1 := 5) rfl (i := 2) rfl dX8_learnAll_4 rfl ?_
      refine J_bipush (pc1 := 7) (by decide) dX8_learnAll_5 rfl ?_
      refine J_icmp_gt (pc1 := 10) (tgt := 26) (by omega) (by omega) (by decide) (by decide) dX8_learnAll_7 rfl rfl (fun hc1 => ?_) (fun hc1 => ?_)
      · exact J_vret rfl dX8_learnAll_26 (Nat.le_refl _) (Nat.le_refl _) (⟨rfl, g, rfl, hg2, (by first | exact hM (bC_0 (by assumption)) | exact (show k = 8 by omega) ▸ ha)⟩)
      · refine J_iload_n (pc1 := 11) rfl (i := 1) rfl dX8_learnAll_10 rfl ?_
        refine J_if_eq (pc1 := 14) (tgt := 26) (bC_lo _) (bC_hi _) dX8_learnAll_11 rfl rfl (fun hc2 => ?_) (fun hc2 => ?_)
        · exact J_vret rfl dX8_learnAll_26 (Nat.le_refl _) (Nat.le_refl _) (⟨rfl, g, rfl, hg2, (by first | exact hM (bC_0 (by assumption)) | exact (show k = 8 by omega) ▸ ha)⟩)
        · refine J_aload_n (pc1 := 15) rfl (i := 0) rfl dX8_learnAll_14 rfl ?_
          refine J_iload_n (pc1 := 16) rfl (i := 2) rfl dX8_learnAll_15 rfl ?_
          refine J_callV (pc1 := 19) (As := [.int (iI ((k : Int) + 1))]) gv_X8_41 yv_X8_learnRounds rfl (c_X8_learnRounds T2 d1 d2 (by omega) ha) dX8_learnAll_16 rfl T2.1 rfl rfl (by omega) (by decide) (Nat.zero_le _) (Nat.zero_le _) (Nat.le_of_ble_eq_true rfl) (fun r9 S9 hr9 => ?_)
          obtain ⟨M2, g2, rfl, rfl, hg3, ha2, hs2⟩ := hr9
          rw [pu_pu]
          refine J_st (st1 := [.int (iI (bC M2))]) rfl ?_
          refine J_istore_n (pc1 := 20) (L1 := [some (.ref t), some (.int (iI (bC M2))), some (.int (iI ((k : Int) + 1)))]) rfl (i := 1) dX8_learnAll_19 rfl (by decide) rfl rfl ?_
          refine J_iinc (pc1 := 23) (L1 := [some (.ref t), some (.int (iI (bC M2))), some (.int (iI (((k : Int) + 1) + 1)))]) dX8_learnAll_20 rfl rfl (by decide) rfl rfl ?_
          refine J_goto (tgt := 4) dX8_learnAll_23 rfl ?_
          refine J_L (L1 := [some (.ref t), some (.int (iI (bC M2))), some (.int (iI (((k + 1 : Nat) : Int) + 1)))]) (by rw [show ((k : Int) + 1 + 1) = ((k + 1 : Nat) : Int) + 1 by omega]) ?_
          exact ih (k + 1) g2 M2 (by omega) hg3 ha2 (fun z => aB_stab T.2.2.2.2.2 ha2 (hs2 z) (by omega)) (by omega)
  refine J_iconst (pc1 := 1) dX8_learnAll_0 rfl ?_
  refine J_istore_n (pc1 := 2) (L1 := [some (.ref t), some (.int (iI 1)), none]) rfl (i := 1) dX8_learnAll_1 rfl (by decide) rfl rfl ?_
  refine J_iconst (pc1 := 3) dX8_learnAll_2 rfl ?_
  refine J_istore_n (pc1 := 4) (L1 := [some (.ref t), some (.int (iI 1)), some (.int (iI 1))]) rfl (i := 2) dX8_learnAll_3 rfl (by decide) rfl rfl ?_
  refine J_S (S1 := pu S tm (aI n tg)) (pu_id T.2.2.2.1).symm ?_
  refine J_L (L1 := [some (.ref t), some (.int (iI (bC True))), some (.int (iI (((0 : Nat) : Int) + 1)))]) (by rw [bC_t trivial]; rfl) ?_
  exact LP 9 0 tg True (by omega) hg ha0 (fun z => absurd trivial z) (by omega)
/-- the first numbers of a table: 0 where the hand is at its end -/
def sgF (w : Int) : Int → Int := fun x => if x < 2 * w then 0 else 9
theorem sgF_b (w : Int) : ∀ x, 0 ≤ sgF w x ∧ sgF w x ≤ 9 := fun x => by unfold sgF; split <;> omega
theorem sgF_a {E ti ps top : Int} {w n : Nat} (h : tbN E ti ps top w n) : aB E ti ps top w 0 (sgF w) := by
  intro tw o f b hv hb
  obtain ⟨s1, s2⟩ := sp_b h hv
  have h0 := hv.1
  refine ⟨(sgF_b w _).1, ?_, fun j hj => ?_⟩
  · unfold sgF
    split
    · exact Or.inl (Int.le_refl 0)
    · exact Or.inr rfl
  · have e : j = 0 := by omega
    subst e
    show sgF w (ixF ps top w tw o f b) ≤ 0 ↔ tw ≤ 0
    unfold sgF
    rcases Classical.em (tw = 0) with q | q
    · subst q
      have h1 := (row_b (r := 2 * 0 + b) (m := 2) (w := (w : Int)) (by omega) (by omega) s1 s2).2
      have h2 : ixF ps top w 0 o f b < 2 * (w : Int) := h1
      rw [if_pos h2]
      try omega
    · have h1 : 2 * (w : Int) ≤ (2 * tw + b) * w := Int.mul_le_mul_of_nonneg_right (by omega) (by omega)
      have h2 : ¬ ixF ps top w tw o f b < 2 * (w : Int) := by unfold ixF; omega
      rw [if_neg h2]
      omega
/-- what a new table is -/
def NT (S : pS) (t : Nat) (E ti ps top : Int) (S' : pS) : Prop := ∃ (ow fo tm w n : Nat), TbS S' t E ti ps top ow fo tm w n (sgF w) ∧ ow ≠ tm ∧ fo ≠ tm ∧ S ow = none ∧ S fo = none ∧ S tm = none ∧ ∀ a, S a ≠ none → a ≠ t → S' a = S a
set_option maxHeartbeats 2000000 in
set_option maxRecDepth 20000 in
theorem c_X8_init0 {S : pS} {t : Nat} {E ti top : Int} (hE : 1 ≤ E ∧ E ≤ 3) (hti : ti = 0 ∨ ti = 1) (htop : 0 ≤ top ∧ top ≤ 24) (ht : S t = some (oO 8 [.int (iI 0), .int (iI 0), .int (iI 0), .int (iI 0), .null, .null, .null])) : Ct yX8_init cX8_init 10 none 1 3 1296 [.ref t, .int (iI E), .int (iI ti), .int (iI 1), .int (iI top)] S (kNS (NT S t E ti 0 top)) := by
  obtain ⟨w, hw⟩ : ∃ w : Nat, (w : Int) = top + 1 := ⟨(top + 1).toNat, by omega⟩
  have hp0 : 0 ≤ (4 * E + 2) * (w : Int) := Int.mul_nonneg (by omega) (by omega)
  obtain ⟨n, hn⟩ : ∃ n : Nat, (n : Int) = (4 * E + 2) * (w : Int) := ⟨((4 * E + 2) * (w : Int)).toNat, by omega⟩
  have tn : tbN E ti 0 top w n := ⟨hE, hti, by omega, by omega, by omega, by (unfold wdF; first | (rw [if_pos rfl]; omega) | (rw [if_neg (by omega)]; rfl)), hn⟩
  obtain ⟨w1, w2, w3, w4, w5, w6⟩ := tbN_w tn
  refine Ct.ofJ (by decide +kernel) (Nat.le_of_ble_eq_true rfl) ?_
  refine J_L (L1 := [some (.ref t), some (.int (iI E)), some (.int (iI ti)), some (.int (iI 1)), some (.int (iI top)), none, none, none, none, none]) rfl ?_
  have LP3 : ∀ (n9 q1 q2 q3 : Nat) (i : Int) (tg : Int → Int) (T : pS), (∀ a, S a ≠ none → a ≠ t → T a = S a) → S q1 = none → S q2 = none → S q3 = none → q1 ≠ q3 → q2 ≠ q3 → T t = some (oO 8 [.int (iI E), .int (iI ti), .int (iI 1), .int (iI top), .ref q1, .ref q2, .ref q3]) → T q1 = some (aI w (ogF 0 top)) → T q2 = some (aI w (fgF 0 top)) → T q3 = some (aI n tg) → 0 ≤ i → i ≤ n → (∀ x, 0 ≤ x → x < i → tg x = sgF (w : Int) x) → n - i < n9 → Jd yX8_init cX8_init 10 none 1 3 1296 (kNS (NT S t E ti 0 top)) 3 1296 T 176 [some (.ref t), some (.int (iI E)), some (.int (iI ti)), some (.int (iI 1)), some (.int (iI top)), some (.int (iI (w : Int))), none, some (.int (iI i)), none, none] [] := by
    intro n9 q1 q2 q3
    induction n9 with
    | zero => intro i tg T f0 f1 f2 f3 e1 e2 h1 h2 h3 h4 i0 i1 hi hn9; omega
    | succ n9 ih =>
      intro i tg T f0 f1 f2 f3 e1 e2 h1 h2 h3 h4 i0 i1 hi hn9
      refine J_iload (pc1 := 178) rfl dX8_init_176 rfl ?_
      refine J_aload_n (pc1 := 179) rfl (i := 0) rfl dX8_init_178 rfl ?_
      refine J_get (pc1 := 182) (j := 6) inUX8 (ci := 8) rfl (by decide) lf_X8_38 dX8_init_179 rfl h1 rfl ?_
      refine J_alenI (pc1 := 183) dX8_init_182 rfl h4 ?_
      refine J_icmp_ge (pc1 := 186) (tgt := 214) (by omega) (by omega) (by omega) (by omega) dX8_init_183 rfl rfl (fun hc1 => ?_) (fun hc1 => ?_)
      · refine J_cong h4 (g := fun k : Nat => iI (sgF (w : Int) (k : Int))) (fun k hk => by rw [hi k (by omega) (by omega)]) ?_
        exact J_vret rfl dX8_init_214 (by omega) (by omega) (⟨rfl, q1, q2, q3, w, n, ⟨(pu_ne _ _ (ne_OI h1 h4)).trans h1, (pu_ne _ _ e1).trans h2, (pu_ne _ _ e2).trans h3, pu_self _ _ _, sgF_b _, tn⟩, e1, e2, f1, f2, f3, fun a a1 a2 => (pu_ne _ _ (fun z9 => a1 (by rw [z9]; exact f3))).trans (f0 a a1 a2)⟩)
      · refine J_aload_n (pc1 := 187) rfl (i := 0) rfl dX8_init_186 rfl ?_
        refine J_get (pc1 := 190) (j := 6) inUX8 (ci := 8) rfl (by decide) lf_X8_38 dX8_init_187 rfl h1 rfl ?_
        refine J_iload (pc1 := 192) rfl dX8_init_190 rfl ?_
        refine J_iload (pc1 := 194) rfl dX8_init_192 rfl ?_
        refine J_iconst (pc1 := 195) dX8_init_194 rfl ?_
        refine J_iload (pc1 := 197) rfl dX8_init_195 rfl ?_
        refine J_imul (pc1 := 198) dX8_init_197 rfl ?_
        refine J_icmp_ge (pc1 := 201) (tgt := 205) (by omega) (by omega) (by omega) (by omega) dX8_init_198 rfl rfl (fun hc2 => ?_) (fun hc2 => ?_)
        · refine J_bipush (pc1 := 207) (by decide) dX8_init_205 rfl ?_
          refine J_iast (pc1 := 208) dX8_init_207 rfl h4 (by omega) (by omega) (by omega) ?_
          refine J_iinc (pc1 := 211) (L1 := [some (.ref t), some (.int (iI E)), some (.int (iI ti)), some (.int (iI 1)), some (.int (iI top)), some (.int (iI (w : Int))), none, some (.int (iI (i + 1))), none, none]) dX8_init_208 rfl rfl (by decide) rfl rfl ?_
          refine J_goto (tgt := 176) dX8_init_211 rfl ?_
          refine ih (i + 1) (uZ tg i 9) _ (fun a a1 a2 => (pu_ne _ _ (fun z9 => a1 (by rw [z9]; exact f3))).trans (f0 a a1 a2)) f1 f2 f3 e1 e2 ((pu_ne _ _ (ne_OI h1 h4)).trans h1) ((pu_ne _ _ e1).trans h2) ((pu_ne _ _ e2).trans h3) (pu_self _ _ _) (by omega) (by omega) (fun x x0 x1 => ?_) (by omega)
          unfold uZ
          by_cases hx9 : x = i
          · rw [if_pos hx9, hx9]
            unfold sgF
            first | rw [if_pos (by omega)] | rw [if_neg (by omega)]
          · rw [if_neg hx9]
            exact hi x x0 (by omega)
        · refine J_iconst (pc1 := 202) dX8_init_201 rfl ?_
          refine J_goto (tgt := 207) dX8_init_202 rfl ?_
          refine J_iast (pc1 := 208) dX8_init_207 rfl h4 (by omega) (by omega) (by omega) ?_
          refine J_iinc (pc1 := 211) (L1 := [some (.ref t), some (.int (iI E)), some (.int (iI ti)), some (.int (iI 1)), some (.int (iI top)), some (.int (iI (w : Int))), none, some (.int (iI (i + 1))), none, none]) dX8_init_208 rfl rfl (by decide) rfl rfl ?_
          refine J_goto (tgt := 176) dX8_init_211 rfl ?_
          refine ih (i + 1) (uZ tg i 0) _ (fun a a1 a2 => (pu_ne _ _ (fun z9 => a1 (by rw [z9]; exact f3))).trans (f0 a a1 a2)) f1 f2 f3 e1 e2 ((pu_ne _ _ (ne_OI h1 h4)).trans h1) ((pu_ne _ _ e1).trans h2) ((pu_ne _ _ e2).trans h3) (pu_self _ _ _) (by omega) (by omega) (fun x x0 x1 => ?_) (by omega)
          unfold uZ
          by_cases hx9 : x = i
          · rw [if_pos hx9, hx9]
            unfold sgF
            first | rw [if_pos (by omega)] | rw [if_neg (by omega)]
          · rw [if_neg hx9]
            exact hi x x0 (by omega)
  have LP2 : ∀ (q1 q2 : Nat) (og fg : Int → Int) (T : pS), (∀ a, S a ≠ none → a ≠ t → T a = S a) → S q1 = none → S q2 = none → q1 ≠ q2 → T t = some (oO 8 [.int (iI E), .int (iI ti), .int (iI 1), .int (iI top), .ref q1, .ref q2, .null]) → T q1 = some (aI w og) → T q2 = some (aI w fg) → (∀ x, 0 ≤ x → x < (w : Int) → og x = ogF 0 top x ∧ fg x = fgF 0 top x) → Jd yX8_init cX8_init 10 none 1 3 1296 (kNS (NT S t E ti 0 top)) (0 + 1 + 1) (0 + w + w) T 155 [some (.ref t), some (.int (iI E)), some (.int (iI ti)), some (.int (iI 1)), some (.int (iI top)), some (.int (iI (w : Int))), none, none, none, none] [] := by
    intro q1 q2 og fg T f0 f1 f2 e1 h1 h2 h3 hi
    refine J_cong h2 (g := fun k : Nat => iI (ogF 0 top (k : Int))) (fun k hk => by rw [(hi k (by omega) (by omega)).1]) ?_
    refine J_cong ((pu_ne _ _ (Ne.symm e1)).trans h3) (g := fun k : Nat => iI (fgF 0 top (k : Int))) (fun k hk => by rw [(hi k (by omega) (by omega)).2]) ?_
    have h1 := (pu_ne (pu T q1 (aI w (ogF 0 top))) (aI w (fgF 0 top)) (ne_OI h1 h3)).trans ((pu_ne T (aI w (ogF 0 top)) (ne_OI h1 h2)).trans h1)
    have h2 := (pu_ne (pu T q1 (aI w (ogF 0 top))) (aI w (fgF 0 top)) e1).trans (pu_self T q1 (aI w (ogF 0 top)))
    have h3 := pu_self (pu T q1 (aI w (ogF 0 top))) q2 (aI w (fgF 0 top))
    have f0 : ∀ a, S a ≠ none → a ≠ t → pu (pu T q1 (aI w (ogF 0 top))) q2 (aI w (fgF 0 top)) a = S a := fun a a1 a2 => (pu_ne _ _ (fun z9 => a1 (by rw [z9]; exact f2))).trans ((pu_ne _ _ (fun z9 => a1 (by rw [z9]; exact f1))).trans (f0 a a1 a2))
    generalize pu (pu T q1 (aI w (ogF 0 top))) q2 (aI w (fgF 0 top)) = T at h1 h2 h3 f0 ⊢
    refine J_aload_n (pc1 := 156) rfl (i := 0) rfl dX8_init_155 rfl ?_
    refine J_iconst (pc1 := 157) dX8_init_156 rfl ?_
    refine J_iconst (pc1 := 158) dX8_init_157 rfl ?_
    refine J_iload_n (pc1 := 159) rfl (i := 1) rfl dX8_init_158 rfl ?_
    refine J_imul (pc1 := 160) dX8_init_159 rfl ?_
    refine J_iconst (pc1 := 161) dX8_init_160 rfl ?_
    refine J_iadd (pc1 := 162) dX8_init_161 rfl ?_
    refine J_iload (pc1 := 164) rfl dX8_init_162 rfl ?_
    refine J_imul (pc1 := 165) dX8_init_164 rfl ?_
    refine J_max (pc1 := 168) (by decide) (by decide) (by omega) (by omega) lm_X8_25 dX8_init_165 rfl (by omega) (Nat.le_of_ble_eq_true rfl) (by omega) (by omega) ?_
    refine J_nm (fun z14 hz14 => ?_)
    obtain rfl : z14 = (n : Int) := by (unfold mx at hz14; split at hz14 <;> omega)
    refine J_newI (pc1 := 170) (n := n) la_int dX8_init_168 rfl (by omega) (by omega) (by omega) (by omega) (fun q21 n21 => ?_)
    have e_t_q21 : t ≠ q21 := ne_N h1 n21
    have e_q1_q21 : q1 ≠ q21 := ne_N h2 n21
    have e_q2_q21 : q2 ≠ q21 := ne_N h3 n21
    refine J_putF (pc1 := 173) (ty := (.array .int)) (j := 6) (fs1 := [.int (iI E), .int (iI ti), .int (iI 1), .int (iI top), .ref q1, .ref q2, .ref q21]) inUX8 (ci := 8) rfl (by decide) tyX8 tyX8_ok nmX8 rfl rfl rfl (by decide +kernel) lf_X8_38 dX8_init_170 rfl ((pu_ne _ _ e_t_q21).trans h1) rfl (by rfl) (Nat.le_of_ble_eq_true rfl) rfl ?_
    refine J_iconst (pc1 := 174) dX8_init_173 rfl ?_
    refine J_istore (pc1 := 176) (L1 := [some (.ref t), some (.int (iI E)), some (.int (iI ti)), some (.int (iI 1)), some (.int (iI top)), some (.int (iI (w : Int))), none, some (.int (iI 0)), none, none]) dX8_init_174 rfl (by decide) rfl rfl ?_
    refine J_widen (c1 := 3) (s1 := 1296) (by omega) (by omega) ?_
    refine J_sub (L1 := [some (.ref t), some (.int (iI E)), some (.int (iI ti)), some (.int (iI 1)), some (.int (iI top)), some (.int (iI (w : Int))), none, some (.int (iI 0)), none, none]) ⟨rfl, rfl, rfl, rfl, rfl, rfl, rfl, trivial⟩ ?_
    have g3 : S q21 = none := by
      rcases Classical.em (S q21 = none) with z9 | z9
      · exact z9
      · exact absurd ((f0 _ z9 (Ne.symm e_t_q21)).symm.trans n21) z9
    exact LP3 (n + 1) q1 q2 q21 0 (fun _ => 0) _ (fun a a1 a2 => (pu_ne _ _ a2).trans ((pu_ne _ _ (fun z9 => a1 (by rw [z9]; exact g3))).trans (f0 a a1 a2))) f1 f2 g3 e_q1_q21 e_q2_q21 (pu_self _ _ _) ((pu_ne _ _ (ne_IO h2 h1)).trans ((pu_ne _ _ e_q1_q21).trans h2)) ((pu_ne _ _ (ne_IO h3 h1)).trans ((pu_ne _ _ e_q2_q21).trans h3)) ((pu_ne _ _ (Ne.symm e_t_q21)).trans (pu_self _ _ _)) (by omega) (by omega) (fun x x0 x1 => by omega) (by omega)
  have LP1 : ∀ (n9 q1 q2 : Nat) (a : Int) (og fg : Int → Int) (T : pS), (∀ a, S a ≠ none → a ≠ t → T a = S a) → S q1 = none → S q2 = none → q1 ≠ q2 → T t = some (oO 8 [.int (iI E), .int (iI ti), .int (iI 1), .int (iI top), .ref q1, .ref q2, .null]) → T q1 = some (aI w og) → T q2 = some (aI w fg) → (∀ x, 0 ≤ x → x < a → og x = ogF 0 top x ∧ fg x = fgF 0 top x) → 0 ≤ a → a ≤ top + 1 → top + 1 - a < n9 → Jd yX8_init cX8_init 10 none 1 3 1296 (kNS (NT S t E ti 0 top)) (0 + 1 + 1) (0 + w + w) T 73 [some (.ref t), some (.int (iI E)), some (.int (iI ti)), some (.int (iI 1)), some (.int (iI top)), some (.int (iI (w : Int))), some (.int (iI a)), some (.int (iI a)), none, none] [] := by
    intro n9 q1 q2
    induction n9 with
    | zero => intro a og fg T f0 f1 f2 e1 h1 h2 h3 hi a0 a1 hn9; omega
    | succ n9 ih =>
      intro a og fg T f0 f1 f2 e1 h1 h2 h3 hi a0 a1 hn9
      refine J_iload (pc1 := 75) rfl dX8_init_73 rfl ?_
      refine J_iload (pc1 := 77) rfl dX8_init_75 rfl ?_
      refine J_icmp_gt (pc1 := 80) (tgt := 155) (by omega) (by omega) (by omega) (by omega) dX8_init_77 rfl rfl (fun hc21 => ?_) (fun hc21 => ?_)
      · refine J_sub (L1 := [some (.ref t), some (.int (iI E)), some (.int (iI ti)), some (.int (iI 1)), some (.int (iI top)), some (.int (iI (w : Int))), none, none, none, none]) ⟨rfl, rfl, rfl, rfl, rfl, rfl, trivial⟩ ?_
        exact LP2 q1 q2 og fg T f0 f1 f2 e1 h1 h2 h3 (fun z z0 z1 => hi z z0 (by omega))
      · refine J_iload_n (pc1 := 81) rfl (i := 3) rfl dX8_init_80 rfl ?_
        refine J_if_eq (pc1 := 84) (tgt := 92) (by decide) (by decide) dX8_init_81 rfl rfl (fun hc22 => ?_) (fun hc22 => ?_)
        · exact absurd hc22 (by decide)
        · refine J_iload (pc1 := 86) rfl dX8_init_84 rfl ?_
          refine J_iload (pc1 := 88) rfl dX8_init_86 rfl ?_
          refine J_isub (pc1 := 89) dX8_init_88 rfl ?_
          refine J_goto (tgt := 94) dX8_init_89 rfl ?_
          refine J_istore (pc1 := 96) (L1 := [some (.ref t), some (.int (iI E)), some (.int (iI ti)), some (.int (iI 1)), some (.int (iI top)), some (.int (iI (w : Int))), some (.int (iI a)), some (.int (iI a)), some (.int (iI (top - a))), none]) dX8_init_94 rfl (by decide) rfl rfl ?_
          refine J_iload_n (pc1 := 97) rfl (i := 3) rfl dX8_init_96 rfl ?_
          refine J_if_eq (pc1 := 100) (tgt := 105) (by decide) (by decide) dX8_init_97 rfl rfl (fun hc23 => ?_) (fun hc23 => ?_)
          · exact absurd hc23 (by decide)
          · refine J_iload (pc1 := 102) rfl dX8_init_100 rfl ?_
            refine J_goto (tgt := 106) dX8_init_102 rfl ?_
            refine J_istore (pc1 := 108) (L1 := [some (.ref t), some (.int (iI E)), some (.int (iI ti)), some (.int (iI 1)), some (.int (iI top)), some (.int (iI (w : Int))), some (.int (iI a)), some (.int (iI a)), some (.int (iI (top - a))), some (.int (iI (top - a)))]) dX8_init_106 rfl (by decide) rfl rfl ?_
            refine J_iload (pc1 := 110) rfl dX8_init_108 rfl ?_
            refine J_iload (pc1 := 112) rfl dX8_init_110 rfl ?_
            refine J_icmp_gt (pc1 := 115) (tgt := 149) (by omega) (by omega) (by omega) (by omega) dX8_init_112 rfl rfl (fun hc24 => ?_) (fun hc24 => ?_)
            · exact absurd hc24 (by omega)
            · refine J_iload (pc1 := 117) rfl dX8_init_115 rfl ?_
              refine J_iload (pc1 := 119) rfl dX8_init_117 rfl ?_
              refine J_icmp_ge (pc1 := 122) (tgt := 149) (by omega) (by omega) (by omega) (by omega) dX8_init_119 rfl rfl (fun hc25 => ?_) (fun hc25 => ?_)
              · exact absurd hc25 (by omega)
              · refine J_aload_n (pc1 := 123) rfl (i := 0) rfl dX8_init_122 rfl ?_
                refine J_get (pc1 := 126) (j := 4) inUX8 (ci := 8) rfl (by decide) lf_X8_31 dX8_init_123 rfl h1 rfl ?_
                refine J_iload (pc1 := 128) rfl dX8_init_126 rfl ?_
                refine J_iload (pc1 := 130) rfl dX8_init_128 rfl ?_
                refine J_iast (pc1 := 131) dX8_init_130 rfl h2 (by omega) (by omega) (by omega) ?_
                refine J_aload_n (pc1 := 132) rfl (i := 0) rfl dX8_init_131 rfl ?_
                refine J_get (pc1 := 135) (j := 5) inUX8 (ci := 8) rfl (by decide) lf_X8_35 dX8_init_132 rfl ((pu_ne _ _ (ne_OI h1 h2)).trans h1) rfl ?_
                refine J_iload (pc1 := 137) rfl dX8_init_135 rfl ?_
                refine J_iload (pc1 := 139) rfl dX8_init_137 rfl ?_
                refine J_iast (pc1 := 140) dX8_init_139 rfl ((pu_ne _ _ (Ne.symm e1)).trans h3) (by omega) (by omega) (by omega) ?_
                refine J_iinc (pc1 := 143) (L1 := [some (.ref t), some (.int (iI E)), some (.int (iI ti)), some (.int (iI 1)), some (.int (iI top)), some (.int (iI (w : Int))), some (.int (iI (a + 1))), some (.int (iI a)), some (.int (iI (top - a))), some (.int (iI (top - a)))]) dX8_init_140 rfl rfl (by decide) rfl rfl ?_
                refine J_iinc (pc1 := 146) (L1 := [some (.ref t), some (.int (iI E)), some (.int (iI ti)), some (.int (iI 1)), some (.int (iI top)), some (.int (iI (w : Int))), some (.int (iI (a + 1))), some (.int (iI a)), some (.int (iI (top - a))), some (.int (iI ((top - a) + 1)))]) dX8_init_143 rfl rfl (by decide) rfl rfl ?_
                refine J_goto (tgt := 108) dX8_init_146 rfl ?_
                refine J_iload (pc1 := 110) rfl dX8_init_108 rfl ?_
                refine J_iload (pc1 := 112) rfl dX8_init_110 rfl ?_
                refine J_icmp_gt (pc1 := 115) (tgt := 149) (by omega) (by omega) (by omega) (by omega) dX8_init_112 rfl rfl (fun hc26 => ?_) (fun hc26 => ?_)
                · refine J_iinc (pc1 := 152) (L1 := [some (.ref t), some (.int (iI E)), some (.int (iI ti)), some (.int (iI 1)), some (.int (iI top)), some (.int (iI (w : Int))), some (.int (iI (a + 1))), some (.int (iI (a + 1))), some (.int (iI (top - a))), some (.int (iI ((top - a) + 1)))]) dX8_init_149 rfl rfl (by decide) rfl rfl ?_
                  refine J_goto (tgt := 73) dX8_init_152 rfl ?_
                  refine J_sub (L1 := [some (.ref t), some (.int (iI E)), some (.int (iI ti)), some (.int (iI 1)), some (.int (iI top)), some (.int (iI (w : Int))), some (.int (iI (a + 1))), some (.int (iI (a + 1))), none, none]) ⟨rfl, rfl, rfl, rfl, rfl, rfl, rfl, rfl, trivial⟩ ?_
                  refine ih (a + 1) (uZ og a a) (uZ fg a (top - a)) _ (fun b b1 b2 => (pu_ne _ _ (fun z9 => b1 (by rw [z9]; exact f2))).trans ((pu_ne _ _ (fun z9 => b1 (by rw [z9]; exact f1))).trans (f0 b b1 b2))) f1 f2 e1 ((pu_ne _ _ (ne_OI h1 h3)).trans ((pu_ne _ _ (ne_OI h1 h2)).trans h1)) ((pu_ne _ _ e1).trans (pu_self _ _ _)) (pu_self _ _ _) (fun z z0 z1 => ?_) (by omega) (by omega) (by omega)
                  unfold uZ
                  by_cases hz9 : z = a
                  · rw [if_pos hz9, if_pos hz9, hz9]
                    unfold ogF fgF
                    rw [if_pos rfl, if_pos rfl]; exact ⟨rfl, rfl⟩
                  · rw [if_neg hz9, if_neg hz9]
                    exact hi z z0 (by omega)
                · exact absurd (by omega) hc26
  refine J_aload_n (pc1 := 1) rfl (i := 0) rfl dX8_init_0 rfl ?_
  refine J_objInit (pc1 := 4) lm_X8_3 li_init_Object lc_init_Object dX8_init_1 rfl (by omega) (by decide) ?_
  refine J_aload_n (pc1 := 5) rfl (i := 0) rfl dX8_init_4 rfl ?_
  refine J_iload_n (pc1 := 6) rfl (i := 1) rfl dX8_init_5 rfl ?_
  refine J_putF (pc1 := 9) (ty := .int) (j := 0) (fs1 := [.int (iI E), .int (iI 0), .int (iI 0), .int (iI 0), .null, .null, .null]) inUX8 (ci := 8) rfl (by decide) tyX8 tyX8_ok nmX8 rfl rfl rfl (by decide +kernel) lf_X8_9 dX8_init_6 rfl ht rfl (by rfl) (Nat.le_of_ble_eq_true rfl) rfl ?_
  refine J_aload_n (pc1 := 10) rfl (i := 0) rfl dX8_init_9 rfl ?_
  refine J_iload_n (pc1 := 11) rfl (i := 2) rfl dX8_init_10 rfl ?_
  refine J_putF (pc1 := 14) (ty := .int) (j := 1) (fs1 := [.int (iI E), .int (iI ti), .int (iI 0), .int (iI 0), .null, .null, .null]) inUX8 (ci := 8) rfl (by decide) tyX8 tyX8_ok nmX8 rfl rfl rfl (by decide +kernel) lf_X8_15 dX8_init_11 rfl (pu_self _ _ _) rfl (by rfl) (Nat.le_of_ble_eq_true rfl) rfl ?_
  rw [pu_pu]
  refine J_aload_n (pc1 := 15) rfl (i := 0) rfl dX8_init_14 rfl ?_
  refine J_iload_n (pc1 := 16) rfl (i := 3) rfl dX8_init_15 rfl ?_
  refine J_putF (pc1 := 19) (ty := .boolean) (j := 2) (fs1 := [.int (iI E), .int (iI ti), .int (iI 1), .int (iI 0), .null, .null, .null]) inUX8 (ci := 8) rfl (by decide) tyX8 tyX8_ok nmX8 rfl rfl rfl (by decide +kernel) lf_X8_18 dX8_init_16 rfl (pu_self _ _ _) rfl (by rfl) (Nat.le_of_ble_eq_true rfl) rfl ?_
  rw [pu_pu]
  refine J_aload_n (pc1 := 20) rfl (i := 0) rfl dX8_init_19 rfl ?_
  refine J_iload (pc1 := 22) rfl dX8_init_20 rfl ?_
  refine J_putF (pc1 := 25) (ty := .int) (j := 3) (fs1 := [.int (iI E), .int (iI ti), .int (iI 1), .int (iI top), .null, .null, .null]) inUX8 (ci := 8) rfl (by decide) tyX8 tyX8_ok nmX8 rfl rfl rfl (by decide +kernel) lf_X8_22 dX8_init_22 rfl (pu_self _ _ _) rfl (by rfl) (Nat.le_of_ble_eq_true rfl) rfl ?_
  rw [pu_pu]
  refine J_iconst (pc1 := 26) dX8_init_25 rfl ?_
  refine J_iload_n (pc1 := 27) rfl (i := 3) rfl dX8_init_26 rfl ?_
  refine J_if_eq (pc1 := 30) (tgt := 37) (by decide) (by decide) dX8_init_27 rfl rfl (fun hc41 => ?_) (fun hc41 => ?_)
  · exact absurd hc41 (by decide)
  · refine J_iload (pc1 := 32) rfl dX8_init_30 rfl ?_
    refine J_iconst (pc1 := 33) dX8_init_32 rfl ?_
    refine J_iadd (pc1 := 34) dX8_init_33 rfl ?_
    refine J_goto (tgt := 46) dX8_init_34 rfl ?_
    refine J_max (pc1 := 49) (by decide) (by decide) (by omega) (by omega) lm_X8_25 dX8_init_46 rfl (by omega) (Nat.le_of_ble_eq_true rfl) (by omega) (by omega) ?_
    refine J_nm (fun z15 hz15 => ?_)
    obtain rfl : z15 = (w : Int) := by (unfold mx at hz15; split at hz15 <;> omega)
    refine J_istore (pc1 := 51) (L1 := [some (.ref t), some (.int (iI E)), some (.int (iI ti)), some (.int (iI 1)), some (.int (iI top)), some (.int (iI (w : Int))), none, none, none, none]) dX8_init_49 rfl (by decide) rfl rfl ?_
    refine J_aload_n (pc1 := 52) rfl (i := 0) rfl dX8_init_51 rfl ?_
    refine J_iload (pc1 := 54) rfl dX8_init_52 rfl ?_
    refine J_newI (pc1 := 56) (n := w) la_int dX8_init_54 rfl (by omega) (by omega) (by omega) (by omega) (fun q41 n41 => ?_)
    have e_t_q41 : t ≠ q41 := ne_N (pu_self _ _ _) n41
    refine J_putF (pc1 := 59) (ty := (.array .int)) (j := 4) (fs1 := [.int (iI E), .int (iI ti), .int (iI 1), .int (iI top), .ref q41, .null, .null]) inUX8 (ci := 8) rfl (by decide) tyX8 tyX8_ok nmX8 rfl rfl rfl (by decide +kernel) lf_X8_31 dX8_init_56 rfl ((pu_ne _ _ e_t_q41).trans (pu_self _ _ _)) rfl (by rfl) (Nat.le_of_ble_eq_true rfl) rfl ?_
    refine J_aload_n (pc1 := 60) rfl (i := 0) rfl dX8_init_59 rfl ?_
    refine J_iload (pc1 := 62) rfl dX8_init_60 rfl ?_
    refine J_newI (pc1 := 64) (n := w) la_int dX8_init_62 rfl (by omega) (by omega) (by omega) (by omega) (fun q42 n42 => ?_)
    have e_t_q42 : t ≠ q42 := ne_N (pu_self _ _ _) n42
    have e_q41_q42 : q41 ≠ q42 := ne_N ((pu_ne _ _ (Ne.symm e_t_q41)).trans (pu_self _ _ _)) n42
    refine J_putF (pc1 := 67) (ty := (.array .int)) (j := 5) (fs1 := [.int (iI E), .int (iI ti), .int (iI 1), .int (iI top), .ref q41, .ref q42, .null]) inUX8 (ci := 8) rfl (by decide) tyX8 tyX8_ok nmX8 rfl rfl rfl (by decide +kernel) lf_X8_35 dX8_init_64 rfl ((pu_ne _ _ e_t_q42).trans (pu_self _ _ _)) rfl (by rfl) (Nat.le_of_ble_eq_true rfl) rfl ?_
    refine J_iconst (pc1 := 68) dX8_init_67 rfl ?_
    refine J_istore (pc1 := 70) (L1 := [some (.ref t), some (.int (iI E)), some (.int (iI ti)), some (.int (iI 1)), some (.int (iI top)), some (.int (iI (w : Int))), some (.int (iI 0)), none, none, none]) dX8_init_68 rfl (by decide) rfl rfl ?_
    refine J_iconst (pc1 := 71) dX8_init_70 rfl ?_
    refine J_istore (pc1 := 73) (L1 := [some (.ref t), some (.int (iI E)), some (.int (iI ti)), some (.int (iI 1)), some (.int (iI top)), some (.int (iI (w : Int))), some (.int (iI 0)), some (.int (iI 0)), none, none]) dX8_init_71 rfl (by decide) rfl rfl ?_
    have ga : S q41 = none := by
      first | exact pu_none2 n41 | exact pu_none2 (pu_none2 n41) | exact pu_none2 (pu_none2 (pu_none2 (pu_none2 n41)))
    have gb : S q42 = none := by
      first | exact pu_none2 (pu_none2 (pu_none2 n42)) | exact pu_none2 (pu_none2 n42) | exact pu_none2 (pu_none2 (pu_none2 (pu_none2 n42)))
    exact LP1 (w + 1) q41 q42 0 (fun _ => 0) (fun _ => 0) _ (fun a a1 a2 => ((pu_ne _ _ a2).trans ((pu_ne _ _ (fun z9 => a1 (by rw [z9]; exact gb))).trans ((pu_ne _ _ a2).trans ((pu_ne _ _ (fun z9 => a1 (by rw [z9]; exact ga))).trans (pu_ne _ _ a2)))))) ga gb e_q41_q42 (pu_self _ _ _) ((pu_ne _ _ (Ne.symm e_t_q41)).trans ((pu_ne _ _ e_q41_q42).trans ((pu_ne _ _ (Ne.symm e_t_q41)).trans (pu_self _ _ _)))) ((pu_ne _ _ (Ne.symm e_t_q42)).trans (pu_self _ _ _)) (fun z z0 z1 => by omega) (by omega) (by omega) (by omega)
set_option maxHeartbeats 2000000 in
set_option maxRecDepth 20000 in
theorem c_X8_init1 {S : pS} {t : Nat} {E ti : Int} (hE : 1 ≤ E ∧ E ≤ 3) (hti : ti = 0 ∨ ti = 1) (ht : S t = some (oO 8 [.int (iI 0), .int (iI 0), .int (iI 0), .int (iI 0), .null, .null, .null])) : Ct yX8_init cX8_init 10 none 1 3 1296 [.ref t, .int (iI E), .int (iI ti), .int (iI 0), .int (iI 8)] S (kNS (NT S t E ti 1 8)) := by
  have hp0 : 0 ≤ (4 * E + 2) * 81 := Int.mul_nonneg (by omega) (by omega)
  obtain ⟨n, hn⟩ : ∃ n : Nat, (n : Int) = (4 * E + 2) * 81 := ⟨((4 * E + 2) * 81).toNat, by omega⟩
  have tn : tbN E ti 1 8 81 n := ⟨hE, hti, by omega, by omega, by omega, by (unfold wdF; first | (rw [if_pos rfl]; omega) | (rw [if_neg (by omega)]; rfl)), hn⟩
  obtain ⟨w1, w2, w3, w4, w5, w6⟩ := tbN_w tn
  refine Ct.ofJ (by decide +kernel) (Nat.le_of_ble_eq_true rfl) ?_
  refine J_L (L1 := [some (.ref t), some (.int (iI E)), some (.int (iI ti)), some (.int (iI 0)), some (.int (iI 8)), none, none, none, none, none]) rfl ?_
  have LP3 : ∀ (n9 q1 q2 q3 : Nat) (i : Int) (tg : Int → Int) (T : pS), (∀ a, S a ≠ none → a ≠ t → T a = S a) → S q1 = none → S q2 = none → S q3 = none → q1 ≠ q3 → q2 ≠ q3 → T t = some (oO 8 [.int (iI E), .int (iI ti), .int (iI 0), .int (iI 8), .ref q1, .ref q2, .ref q3]) → T q1 = some (aI 81 (ogF 1 8)) → T q2 = some (aI 81 (fgF 1 8)) → T q3 = some (aI n tg) → 0 ≤ i → i ≤ n → (∀ x, 0 ≤ x → x < i → tg x = sgF 81 x) → n - i < n9 → Jd yX8_init cX8_init 10 none 1 3 1296 (kNS (NT S t E ti 1 8)) 3 1296 T 176 [some (.ref t), some (.int (iI E)), some (.int (iI ti)), some (.int (iI 0)), some (.int (iI 8)), some (.int (iI 81)), none, some (.int (iI i)), none, none] [] := by
    intro n9 q1 q2 q3
    induction n9 with
    | zero => intro i tg T f0 f1 f2 f3 e1 e2 h1 h2 h3 h4 i0 i1 hi hn9; omega
    | succ n9 ih =>
      intro i tg T f0 f1 f2 f3 e1 e2 h1 h2 h3 h4 i0 i1 hi hn9
      refine J_iload (pc1 := 178) rfl dX8_init_176 rfl ?_
      refine J_aload_n (pc1 := 179) rfl (i := 0) rfl dX8_init_178 rfl ?_
      refine J_get (pc1 := 182) (j := 6) inUX8 (ci := 8) rfl (by decide) lf_X8_38 dX8_init_179 rfl h1 rfl ?_
      refine J_alenI (pc1 := 183) dX8_init_182 rfl h4 ?_
      refine J_icmp_ge (pc1 := 186) (tgt := 214) (by omega) (by omega) (by omega) (by omega) dX8_init_183 rfl rfl (fun hc1 => ?_) (fun hc1 => ?_)
      · refine J_cong h4 (g := fun k : Nat => iI (sgF 81 (k : Int))) (fun k hk => by rw [hi k (by omega) (by omega)]) ?_
        exact J_vret rfl dX8_init_214 (by omega) (by omega) (⟨rfl, q1, q2, q3, 81, n, ⟨(pu_ne _ _ (ne_OI h1 h4)).trans h1, (pu_ne _ _ e1).trans h2, (pu_ne _ _ e2).trans h3, pu_self _ _ _, sgF_b _, tn⟩, e1, e2, f1, f2, f3, fun a a1 a2 => (pu_ne _ _ (fun z9 => a1 (by rw [z9]; exact f3))).trans (f0 a a1 a2)⟩)
      · refine J_aload_n (pc1 := 187) rfl (i := 0) rfl dX8_init_186 rfl ?_
        refine J_get (pc1 := 190) (j := 6) inUX8 (ci := 8) rfl (by decide) lf_X8_38 dX8_init_187 rfl h1 rfl ?_
        refine J_iload (pc1 := 192) rfl dX8_init_190 rfl ?_
        refine J_iload (pc1 := 194) rfl dX8_init_192 rfl ?_
        refine J_iconst (pc1 := 195) dX8_init_194 rfl ?_
        refine J_iload (pc1 := 197) rfl dX8_init_195 rfl ?_
        refine J_imulE (pc1 := 198) (z := 162) (by decide) dX8_init_197 rfl ?_
        refine J_icmp_ge (pc1 := 201) (tgt := 205) (by omega) (by omega) (by decide) (by decide) dX8_init_198 rfl rfl (fun hc2 => ?_) (fun hc2 => ?_)
        · refine J_bipush (pc1 := 207) (by decide) dX8_init_205 rfl ?_
          refine J_iast (pc1 := 208) dX8_init_207 rfl h4 (by omega) (by omega) (by omega) ?_
          refine J_iinc (pc1 := 211) (L1 := [some (.ref t), some (.int (iI E)), some (.int (iI ti)), some (.int (iI 0)), some (.int (iI 8)), some (.int (iI 81)), none, some (.int (iI (i + 1))), none, none]) dX8_init_208 rfl rfl (by decide) rfl rfl ?_
          refine J_goto (tgt := 176) dX8_init_211 rfl ?_
          refine ih (i + 1) (uZ tg i 9) _ (fun a a1 a2 => (pu_ne _ _ (fun z9 => a1 (by rw [z9]; exact f3))).trans (f0 a a1 a2)) f1 f2 f3 e1 e2 ((pu_ne _ _ (ne_OI h1 h4)).trans h1) ((pu_ne _ _ e1).trans h2) ((pu_ne _ _ e2).trans h3) (pu_self _ _ _) (by omega) (by omega) (fun x x0 x1 => ?_) (by omega)
          unfold uZ
          by_cases hx9 : x = i
          · rw [if_pos hx9, hx9]
            unfold sgF
            first | rw [if_pos (by omega)] | rw [if_neg (by omega)]
          · rw [if_neg hx9]
            exact hi x x0 (by omega)
        · refine J_iconst (pc1 := 202) dX8_init_201 rfl ?_
          refine J_goto (tgt := 207) dX8_init_202 rfl ?_
          refine J_iast (pc1 := 208) dX8_init_207 rfl h4 (by omega) (by omega) (by omega) ?_
          refine J_iinc (pc1 := 211) (L1 := [some (.ref t), some (.int (iI E)), some (.int (iI ti)), some (.int (iI 0)), some (.int (iI 8)), some (.int (iI 81)), none, some (.int (iI (i + 1))), none, none]) dX8_init_208 rfl rfl (by decide) rfl rfl ?_
          refine J_goto (tgt := 176) dX8_init_211 rfl ?_
          refine ih (i + 1) (uZ tg i 0) _ (fun a a1 a2 => (pu_ne _ _ (fun z9 => a1 (by rw [z9]; exact f3))).trans (f0 a a1 a2)) f1 f2 f3 e1 e2 ((pu_ne _ _ (ne_OI h1 h4)).trans h1) ((pu_ne _ _ e1).trans h2) ((pu_ne _ _ e2).trans h3) (pu_self _ _ _) (by omega) (by omega) (fun x x0 x1 => ?_) (by omega)
          unfold uZ
          by_cases hx9 : x = i
          · rw [if_pos hx9, hx9]
            unfold sgF
            first | rw [if_pos (by omega)] | rw [if_neg (by omega)]
          · rw [if_neg hx9]
            exact hi x x0 (by omega)
  have LP2 : ∀ (q1 q2 : Nat) (og fg : Int → Int) (T : pS), (∀ a, S a ≠ none → a ≠ t → T a = S a) → S q1 = none → S q2 = none → q1 ≠ q2 → T t = some (oO 8 [.int (iI E), .int (iI ti), .int (iI 0), .int (iI 8), .ref q1, .ref q2, .null]) → T q1 = some (aI 81 og) → T q2 = some (aI 81 fg) → (∀ x, 0 ≤ x → x < 81 → og x = ogF 1 8 x ∧ fg x = fgF 1 8 x) → Jd yX8_init cX8_init 10 none 1 3 1296 (kNS (NT S t E ti 1 8)) (0 + 1 + 1) (0 + 81 + 81) T 155 [some (.ref t), some (.int (iI E)), some (.int (iI ti)), some (.int (iI 0)), some (.int (iI 8)), some (.int (iI 81)), none, none, none, none] [] := by
    intro q1 q2 og fg T f0 f1 f2 e1 h1 h2 h3 hi
    refine J_cong h2 (g := fun k : Nat => iI (ogF 1 8 (k : Int))) (fun k hk => by rw [(hi k (by omega) (by omega)).1]) ?_
    refine J_cong ((pu_ne _ _ (Ne.symm e1)).trans h3) (g := fun k : Nat => iI (fgF 1 8 (k : Int))) (fun k hk => by rw [(hi k (by omega) (by omega)).2]) ?_
    have h1 := (pu_ne (pu T q1 (aI 81 (ogF 1 8))) (aI 81 (fgF 1 8)) (ne_OI h1 h3)).trans ((pu_ne T (aI 81 (ogF 1 8)) (ne_OI h1 h2)).trans h1)
    have h2 := (pu_ne (pu T q1 (aI 81 (ogF 1 8))) (aI 81 (fgF 1 8)) e1).trans (pu_self T q1 (aI 81 (ogF 1 8)))
    have h3 := pu_self (pu T q1 (aI 81 (ogF 1 8))) q2 (aI 81 (fgF 1 8))
    have f0 : ∀ a, S a ≠ none → a ≠ t → pu (pu T q1 (aI 81 (ogF 1 8))) q2 (aI 81 (fgF 1 8)) a = S a := fun a a1 a2 => (pu_ne _ _ (fun z9 => a1 (by rw [z9]; exact f2))).trans ((pu_ne _ _ (fun z9 => a1 (by rw [z9]; exact f1))).trans (f0 a a1 a2))
    generalize pu (pu T q1 (aI 81 (ogF 1 8))) q2 (aI 81 (fgF 1 8)) = T at h1 h2 h3 f0 ⊢
    refine J_aload_n (pc1 := 156) rfl (i := 0) rfl dX8_init_155 rfl ?_
    refine J_iconst (pc1 := 157) dX8_init_156 rfl ?_
    refine J_iconst (pc1 := 158) dX8_init_157 rfl ?_
    refine J_iload_n (pc1 := 159) rfl (i := 1) rfl dX8_init_158 rfl ?_
    refine J_imul (pc1 := 160) dX8_init_159 rfl ?_
    refine J_iconst (pc1 := 161) dX8_init_160 rfl ?_
    refine J_iadd (pc1 := 162) dX8_init_161 rfl ?_
    refine J_iload (pc1 := 164) rfl dX8_init_162 rfl ?_
    refine J_imul (pc1 := 165) dX8_init_164 rfl ?_
    refine J_max (pc1 := 168) (by decide) (by decide) (by omega) (by omega) lm_X8_25 dX8_init_165 rfl (by omega) (Nat.le_of_ble_eq_true rfl) (by omega) (by omega) ?_
    refine J_nm (fun z16 hz16 => ?_)
    obtain rfl : z16 = (n : Int) := by (unfold mx at hz16; split at hz16 <;> omega)
    refine J_newI (pc1 := 170) (n := n) la_int dX8_init_168 rfl (by omega) (by omega) (by omega) (by omega) (fun q21 n21 => ?_)
    have e_t_q21 : t ≠ q21 := ne_N h1 n21
    have e_q1_q21 : q1 ≠ q21 := ne_N h2 n21
    have e_q2_q21 : q2 ≠ q21 := ne_N h3 n21
    refine J_putF (pc1 := 173) (ty := (.array .int)) (j := 6) (fs1 := [.int (iI E), .int (iI ti), .int (iI 0), .int (iI 8), .ref q1, .ref q2, .ref q21]) inUX8 (ci := 8) rfl (by decide) tyX8 tyX8_ok nmX8 rfl rfl rfl (by decide +kernel) lf_X8_38 dX8_init_170 rfl ((pu_ne _ _ e_t_q21).trans h1) rfl (by rfl) (Nat.le_of_ble_eq_true rfl) rfl ?_
    refine J_iconst (pc1 := 174) dX8_init_173 rfl ?_
    refine J_istore (pc1 := 176) (L1 := [some (.ref t), some (.int (iI E)), some (.int (iI ti)), some (.int (iI 0)), some (.int (iI 8)), some (.int (iI 81)), none, some (.int (iI 0)), none, none]) dX8_init_174 rfl (by decide) rfl rfl ?_
    refine J_widen (c1 := 3) (s1 := 1296) (by omega) (by omega) ?_
    refine J_sub (L1 := [some (.ref t), some (.int (iI E)), some (.int (iI ti)), some (.int (iI 0)), some (.int (iI 8)), some (.int (iI 81)), none, some (.int (iI 0)), none, none]) ⟨rfl, rfl, rfl, rfl, rfl, rfl, rfl, trivial⟩ ?_
    have g3 : S q21 = none := by
      rcases Classical.em (S q21 = none) with z9 | z9
      · exact z9
      · exact absurd ((f0 _ z9 (Ne.symm e_t_q21)).symm.trans n21) z9
    exact LP3 (n + 1) q1 q2 q21 0 (fun _ => 0) _ (fun a a1 a2 => (pu_ne _ _ a2).trans ((pu_ne _ _ (fun z9 => a1 (by rw [z9]; exact g3))).trans (f0 a a1 a2))) f1 f2 g3 e_q1_q21 e_q2_q21 (pu_self _ _ _) ((pu_ne _ _ (ne_IO h2 h1)).trans ((pu_ne _ _ e_q1_q21).trans h2)) ((pu_ne _ _ (ne_IO h3 h1)).trans ((pu_ne _ _ e_q2_q21).trans h3)) ((pu_ne _ _ (Ne.symm e_t_q21)).trans (pu_self _ _ _)) (by omega) (by omega) (fun x x0 x1 => by omega) (by omega)
  have LP1 : ∀ (n9 q1 q2 : Nat) (a x : Int) (og fg : Int → Int) (T : pS), (∀ a, S a ≠ none → a ≠ t → T a = S a) → S q1 = none → S q2 = none → q1 ≠ q2 → T t = some (oO 8 [.int (iI E), .int (iI ti), .int (iI 0), .int (iI 8), .ref q1, .ref q2, .null]) → T q1 = some (aI 81 og) → T q2 = some (aI 81 fg) → (∀ z, 0 ≤ z → z < x → og z = ogF 1 8 z ∧ fg z = fgF 1 8 z) → 0 ≤ a → a ≤ 9 → x = a * 9 → 9 - a < n9 → Jd yX8_init cX8_init 10 none 1 3 1296 (kNS (NT S t E ti 1 8)) (0 + 1 + 1) (0 + 81 + 81) T 73 [some (.ref t), some (.int (iI E)), some (.int (iI ti)), some (.int (iI 0)), some (.int (iI 8)), some (.int (iI 81)), some (.int (iI x)), some (.int (iI a)), none, none] [] := by
    intro n9 q1 q2
    induction n9 with
    | zero => intro a x og fg T f0 f1 f2 e1 h1 h2 h3 hi a0 a1 hx9 hn9; omega
    | succ n9 ih =>
      intro a x og fg T f0 f1 f2 e1 h1 h2 h3 hi a0 a1 hx9 hn9
      have LPi : a ≤ 8 → ∀ (n8 : Nat) (b x : Int) (og fg : Int → Int) (T : pS), (∀ c, S c ≠ none → c ≠ t → T c = S c) → T t = some (oO 8 [.int (iI E), .int (iI ti), .int (iI 0), .int (iI 8), .ref q1, .ref q2, .null]) → T q1 = some (aI 81 og) → T q2 = some (aI 81 fg) → (∀ z, 0 ≤ z → z < x → og z = ogF 1 8 z ∧ fg z = fgF 1 8 z) → 0 ≤ b → b ≤ 9 → x = a * 9 + b → 9 - b < n8 → Jd yX8_init cX8_init 10 none 1 3 1296 (kNS (NT S t E ti 1 8)) (0 + 1 + 1) (0 + 81 + 81) T 108 [some (.ref t), some (.int (iI E)), some (.int (iI ti)), some (.int (iI 0)), some (.int (iI 8)), some (.int (iI 81)), some (.int (iI x)), some (.int (iI a)), some (.int (iI 8)), some (.int (iI b))] [] := by
        intro a8 n8
        induction n8 with
        | zero => intro b x og fg T f0 h1 h2 h3 hi b0 b1 hx8 hn8; omega
        | succ n8 ihi =>
          intro b x og fg T f0 h1 h2 h3 hi b0 b1 hx8 hn8
          refine J_iload (pc1 := 110) rfl dX8_init_108 rfl ?_
          refine J_iload (pc1 := 112) rfl dX8_init_110 rfl ?_
          refine J_icmp_gt (pc1 := 115) (tgt := 149) (by omega) (by omega) (by decide) (by decide) dX8_init_112 rfl rfl (fun hc21 => ?_) (fun hc21 => ?_)
          · refine J_iinc (pc1 := 152) (L1 := [some (.ref t), some (.int (iI E)), some (.int (iI ti)), some (.int (iI 0)), some (.int (iI 8)), some (.int (iI 81)), some (.int (iI x)), some (.int (iI (a + 1))), some (.int (iI 8)), some (.int (iI b))]) dX8_init_149 rfl rfl (by decide) rfl rfl ?_
            refine J_goto (tgt := 73) dX8_init_152 rfl ?_
            refine J_sub (L1 := [some (.ref t), some (.int (iI E)), some (.int (iI ti)), some (.int (iI 0)), some (.int (iI 8)), some (.int (iI 81)), some (.int (iI x)), some (.int (iI (a + 1))), none, none]) ⟨rfl, rfl, rfl, rfl, rfl, rfl, rfl, rfl, trivial⟩ ?_
            exact ih (a + 1) x og fg T f0 f1 f2 e1 h1 h2 h3 hi (by omega) (by omega) (by omega) (by omega)
          · refine J_iload (pc1 := 117) rfl dX8_init_115 rfl ?_
            refine J_iload (pc1 := 119) rfl dX8_init_117 rfl ?_
            refine J_icmp_ge (pc1 := 122) (tgt := 149) (by omega) (by omega) (by decide) (by decide) dX8_init_119 rfl rfl (fun hc22 => ?_) (fun hc22 => ?_)
            · exact absurd hc22 (by omega)
            · refine J_aload_n (pc1 := 123) rfl (i := 0) rfl dX8_init_122 rfl ?_
              refine J_get (pc1 := 126) (j := 4) inUX8 (ci := 8) rfl (by decide) lf_X8_31 dX8_init_123 rfl h1 rfl ?_
              refine J_iload (pc1 := 128) rfl dX8_init_126 rfl ?_
              refine J_iload (pc1 := 130) rfl dX8_init_128 rfl ?_
              refine J_iast (pc1 := 131) dX8_init_130 rfl h2 (by omega) (by omega) (by omega) ?_
              refine J_aload_n (pc1 := 132) rfl (i := 0) rfl dX8_init_131 rfl ?_
              refine J_get (pc1 := 135) (j := 5) inUX8 (ci := 8) rfl (by decide) lf_X8_35 dX8_init_132 rfl ((pu_ne _ _ (ne_OI h1 h2)).trans h1) rfl ?_
              refine J_iload (pc1 := 137) rfl dX8_init_135 rfl ?_
              refine J_iload (pc1 := 139) rfl dX8_init_137 rfl ?_
              refine J_iast (pc1 := 140) dX8_init_139 rfl ((pu_ne _ _ (Ne.symm e1)).trans h3) (by omega) (by omega) (by omega) ?_
              refine J_iinc (pc1 := 143) (L1 := [some (.ref t), some (.int (iI E)), some (.int (iI ti)), some (.int (iI 0)), some (.int (iI 8)), some (.int (iI 81)), some (.int (iI (x + 1))), some (.int (iI a)), some (.int (iI 8)), some (.int (iI b))]) dX8_init_140 rfl rfl (by decide) rfl rfl ?_
              refine J_iinc (pc1 := 146) (L1 := [some (.ref t), some (.int (iI E)), some (.int (iI ti)), some (.int (iI 0)), some (.int (iI 8)), some (.int (iI 81)), some (.int (iI (x + 1))), some (.int (iI a)), some (.int (iI 8)), some (.int (iI (b + 1)))]) dX8_init_143 rfl rfl (by decide) rfl rfl ?_
              refine J_goto (tgt := 108) dX8_init_146 rfl ?_
              refine ihi (b + 1) (x + 1) (uZ og x a) (uZ fg x b) _ (fun b b1 b2 => (pu_ne _ _ (fun z9 => b1 (by rw [z9]; exact f2))).trans ((pu_ne _ _ (fun z9 => b1 (by rw [z9]; exact f1))).trans (f0 b b1 b2))) ((pu_ne _ _ (ne_OI h1 h3)).trans ((pu_ne _ _ (ne_OI h1 h2)).trans h1)) ((pu_ne _ _ e1).trans (pu_self _ _ _)) (pu_self _ _ _) (fun z z0 z1 => ?_) (by omega) (by omega) (by omega) (by omega)
              unfold uZ
              by_cases hz9 : z = x
              · rw [if_pos hz9, if_pos hz9, hz9]
                unfold ogF fgF
                rw [if_neg (by omega), if_neg (by omega)]; exact ⟨by omega, by omega⟩
              · rw [if_neg hz9, if_neg hz9]
                exact hi z z0 (by omega)
      refine J_iload (pc1 := 75) rfl dX8_init_73 rfl ?_
      refine J_iload (pc1 := 77) rfl dX8_init_75 rfl ?_
      refine J_icmp_gt (pc1 := 80) (tgt := 155) (by omega) (by omega) (by decide) (by decide) dX8_init_77 rfl rfl (fun hc23 => ?_) (fun hc23 => ?_)
      · refine J_sub (L1 := [some (.ref t), some (.int (iI E)), some (.int (iI ti)), some (.int (iI 0)), some (.int (iI 8)), some (.int (iI 81)), none, none, none, none]) ⟨rfl, rfl, rfl, rfl, rfl, rfl, trivial⟩ ?_
        exact LP2 q1 q2 og fg T f0 f1 f2 e1 h1 h2 h3 (fun z z0 z1 => hi z z0 (by omega))
      · refine J_iload_n (pc1 := 81) rfl (i := 3) rfl dX8_init_80 rfl ?_
        refine J_if_eq (pc1 := 84) (tgt := 92) (by decide) (by decide) dX8_init_81 rfl rfl (fun hc24 => ?_) (fun hc24 => ?_)
        · refine J_iload (pc1 := 94) rfl dX8_init_92 rfl ?_
          refine J_istore (pc1 := 96) (L1 := [some (.ref t), some (.int (iI E)), some (.int (iI ti)), some (.int (iI 0)), some (.int (iI 8)), some (.int (iI 81)), some (.int (iI x)), some (.int (iI a)), some (.int (iI 8)), none]) dX8_init_94 rfl (by decide) rfl rfl ?_
          refine J_iload_n (pc1 := 97) rfl (i := 3) rfl dX8_init_96 rfl ?_
          refine J_if_eq (pc1 := 100) (tgt := 105) (by decide) (by decide) dX8_init_97 rfl rfl (fun hc25 => ?_) (fun hc25 => ?_)
          · refine J_iconst (pc1 := 106) dX8_init_105 rfl ?_
            refine J_istore (pc1 := 108) (L1 := [some (.ref t), some (.int (iI E)), some (.int (iI ti)), some (.int (iI 0)), some (.int (iI 8)), some (.int (iI 81)), some (.int (iI x)), some (.int (iI a)), some (.int (iI 8)), some (.int (iI 0))]) dX8_init_106 rfl (by decide) rfl rfl ?_
            exact LPi (by omega) 10 0 x og fg T f0 h1 h2 h3 hi (by omega) (by omega) (by omega) (by omega)
          · exact absurd hc25 (by decide)
        · exact absurd hc24 (by decide)
  refine J_aload_n (pc1 := 1) rfl (i := 0) rfl dX8_init_0 rfl ?_
  refine J_objInit (pc1 := 4) lm_X8_3 li_init_Object lc_init_Object dX8_init_1 rfl (by omega) (by decide) ?_
  refine J_aload_n (pc1 := 5) rfl (i := 0) rfl dX8_init_4 rfl ?_
  refine J_iload_n (pc1 := 6) rfl (i := 1) rfl dX8_init_5 rfl ?_
  refine J_putF (pc1 := 9) (ty := .int) (j := 0) (fs1 := [.int (iI E), .int (iI 0), .int (iI 0), .int (iI 0), .null, .null, .null]) inUX8 (ci := 8) rfl (by decide) tyX8 tyX8_ok nmX8 rfl rfl rfl (by decide +kernel) lf_X8_9 dX8_init_6 rfl ht rfl (by rfl) (Nat.le_of_ble_eq_true rfl) rfl ?_
  refine J_aload_n (pc1 := 10) rfl (i := 0) rfl dX8_init_9 rfl ?_
  refine J_iload_n (pc1 := 11) rfl (i := 2) rfl dX8_init_10 rfl ?_
  refine J_putF (pc1 := 14) (ty := .int) (j := 1) (fs1 := [.int (iI E), .int (iI ti), .int (iI 0), .int (iI 0), .null, .null, .null]) inUX8 (ci := 8) rfl (by decide) tyX8 tyX8_ok nmX8 rfl rfl rfl (by decide +kernel) lf_X8_15 dX8_init_11 rfl (pu_self _ _ _) rfl (by rfl) (Nat.le_of_ble_eq_true rfl) rfl ?_
  rw [pu_pu]
  refine J_aload_n (pc1 := 15) rfl (i := 0) rfl dX8_init_14 rfl ?_
  refine J_iload_n (pc1 := 16) rfl (i := 3) rfl dX8_init_15 rfl ?_
  refine J_putF (pc1 := 19) (ty := .boolean) (j := 2) (fs1 := [.int (iI E), .int (iI ti), .int (iI 0), .int (iI 0), .null, .null, .null]) inUX8 (ci := 8) rfl (by decide) tyX8 tyX8_ok nmX8 rfl rfl rfl (by decide +kernel) lf_X8_18 dX8_init_16 rfl (pu_self _ _ _) rfl (by rfl) (Nat.le_of_ble_eq_true rfl) rfl ?_
  rw [pu_pu]
  refine J_aload_n (pc1 := 20) rfl (i := 0) rfl dX8_init_19 rfl ?_
  refine J_iload (pc1 := 22) rfl dX8_init_20 rfl ?_
  refine J_putF (pc1 := 25) (ty := .int) (j := 3) (fs1 := [.int (iI E), .int (iI ti), .int (iI 0), .int (iI 8), .null, .null, .null]) inUX8 (ci := 8) rfl (by decide) tyX8 tyX8_ok nmX8 rfl rfl rfl (by decide +kernel) lf_X8_22 dX8_init_22 rfl (pu_self _ _ _) rfl (by rfl) (Nat.le_of_ble_eq_true rfl) rfl ?_
  rw [pu_pu]
  refine J_iconst (pc1 := 26) dX8_init_25 rfl ?_
  refine J_iload_n (pc1 := 27) rfl (i := 3) rfl dX8_init_26 rfl ?_
  refine J_if_eq (pc1 := 30) (tgt := 37) (by decide) (by decide) dX8_init_27 rfl rfl (fun hc41 => ?_) (fun hc41 => ?_)
  · refine J_iload (pc1 := 39) rfl dX8_init_37 rfl ?_
    refine J_iconst (pc1 := 40) dX8_init_39 rfl ?_
    refine J_iaddE (pc1 := 41) (z := 9) (by decide) dX8_init_40 rfl ?_
    refine J_iload (pc1 := 43) rfl dX8_init_41 rfl ?_
    refine J_iconst (pc1 := 44) dX8_init_43 rfl ?_
    refine J_iaddE (pc1 := 45) (z := 9) (by decide) dX8_init_44 rfl ?_
    refine J_imulE (pc1 := 46) (z := 81) (by decide) dX8_init_45 rfl ?_
    refine J_max (pc1 := 49) (by decide) (by decide) (by decide) (by decide) lm_X8_25 dX8_init_46 rfl (by omega) (Nat.le_of_ble_eq_true rfl) (by omega) (by omega) ?_
    refine J_nm (fun z17 hz17 => ?_)
    obtain rfl : z17 = 81 := by (unfold mx at hz17; split at hz17 <;> omega)
    refine J_istore (pc1 := 51) (L1 := [some (.ref t), some (.int (iI E)), some (.int (iI ti)), some (.int (iI 0)), some (.int (iI 8)), some (.int (iI 81)), none, none, none, none]) dX8_init_49 rfl (by decide) rfl rfl ?_
    refine J_aload_n (pc1 := 52) rfl (i := 0) rfl dX8_init_51 rfl ?_
    refine J_iload (pc1 := 54) rfl dX8_init_52 rfl ?_
    refine J_newI (pc1 := 56) (n := 81) la_int dX8_init_54 rfl rfl (by omega) (by omega) (by omega) (fun q41 n41 => ?_)
    have e_t_q41 : t ≠ q41 := ne_N (pu_self _ _ _) n41
    refine J_putF (pc1 := 59) (ty := (.array .int)) (j := 4) (fs1 := [.int (iI E), .int (iI ti), .int (iI 0), .int (iI 8), .ref q41, .null, .null]) inUX8 (ci := 8) rfl (by decide) tyX8 tyX8_ok nmX8 rfl rfl rfl (by decide +kernel) lf_X8_31 dX8_init_56 rfl ((pu_ne _ _ e_t_q41).trans (pu_self _ _ _)) rfl (by rfl) (Nat.le_of_ble_eq_true rfl) rfl ?_
    refine J_aload_n (pc1 := 60) rfl (i := 0) rfl dX8_init_59 rfl ?_
    refine J_iload (pc1 := 62) rfl dX8_init_60 rfl ?_
    refine J_newI (pc1 := 64) (n := 81) la_int dX8_init_62 rfl rfl (by omega) (by omega) (by omega) (fun q42 n42 => ?_)
    have e_t_q42 : t ≠ q42 := ne_N (pu_self _ _ _) n42
    have e_q41_q42 : q41 ≠ q42 := ne_N ((pu_ne _ _ (Ne.symm e_t_q41)).trans (pu_self _ _ _)) n42
    refine J_putF (pc1 := 67) (ty := (.array .int)) (j := 5) (fs1 := [.int (iI E), .int (iI ti), .int (iI 0), .int (iI 8), .ref q41, .ref q42, .null]) inUX8 (ci := 8) rfl (by decide) tyX8 tyX8_ok nmX8 rfl rfl rfl (by decide +kernel) lf_X8_35 dX8_init_64 rfl ((pu_ne _ _ e_t_q42).trans (pu_self _ _ _)) rfl (by rfl) (Nat.le_of_ble_eq_true rfl) rfl ?_
    refine J_iconst (pc1 := 68) dX8_init_67 rfl ?_
    refine J_istore (pc1 := 70) (L1 := [some (.ref t), some (.int (iI E)), some (.int (iI ti)), some (.int (iI 0)), some (.int (iI 8)), some (.int (iI 81)), some (.int (iI 0)), none, none, none]) dX8_init_68 rfl (by decide) rfl rfl ?_
    refine J_iconst (pc1 := 71) dX8_init_70 rfl ?_
    refine J_istore (pc1 := 73) (L1 := [some (.ref t), some (.int (iI E)), some (.int (iI ti)), some (.int (iI 0)), some (.int (iI 8)), some (.int (iI 81)), some (.int (iI 0)), some (.int (iI 0)), none, none]) dX8_init_71 rfl (by decide) rfl rfl ?_
    have ga : S q41 = none := by
      first | exact pu_none2 n41 | exact pu_none2 (pu_none2 n41) | exact pu_none2 (pu_none2 (pu_none2 (pu_none2 n41)))
    have gb : S q42 = none := by
      first | exact pu_none2 (pu_none2 (pu_none2 n42)) | exact pu_none2 (pu_none2 n42) | exact pu_none2 (pu_none2 (pu_none2 (pu_none2 n42)))
    exact LP1 10 q41 q42 0 0 (fun _ => 0) (fun _ => 0) _ (fun a a1 a2 => ((pu_ne _ _ a2).trans ((pu_ne _ _ (fun z9 => a1 (by rw [z9]; exact gb))).trans ((pu_ne _ _ a2).trans ((pu_ne _ _ (fun z9 => a1 (by rw [z9]; exact ga))).trans (pu_ne _ _ a2)))))) ga gb e_q41_q42 (pu_self _ _ _) ((pu_ne _ _ (Ne.symm e_t_q41)).trans ((pu_ne _ _ e_q41_q42).trans ((pu_ne _ _ (Ne.symm e_t_q41)).trans (pu_self _ _ _)))) ((pu_ne _ _ (Ne.symm e_t_q42)).trans (pu_self _ _ _)) (fun z z0 z1 => by omega) (by omega) (by omega) (by omega) (by omega)
  · exact absurd hc41 (by decide)
