/-! 07.times: the tables -/
def wdF (ps top : Int) : Int := if ps = 0 then top + 1 else (top + 1) * (top + 1)
def spF (ps top o f : Int) : Int := if ps = 0 then o else o * (top + 1) + f
def ogF (ps top : Int) : Int → Int := fun x => if ps = 0 then x else x / (top + 1)
def fgF (ps top : Int) : Int → Int := fun x => if ps = 0 then top - x else x % (top + 1)
def ixF (ps top w tw o f b : Int) : Int := (2 * tw + b) * w + spF ps top o f
/-- the numbers of a table -/
def tbN (E ti ps top : Int) (w n : Nat) : Prop := (1 ≤ E ∧ E ≤ 3) ∧ (ti = 0 ∨ ti = 1) ∧ (ps = 0 ∨ ps = 1) ∧ (0 ≤ top ∧ top ≤ 24) ∧ (ps = 1 → top = 8) ∧ (w : Int) = wdF ps top ∧ (n : Int) = (4 * E + 2) * w
theorem tbN_w {E ti ps top : Int} {w n : Nat} (h : tbN E ti ps top w n) : (ps = 0 → (w : Int) = top + 1) ∧ (ps = 1 → top = 8 ∧ w = 81) ∧ 1 ≤ w ∧ w ≤ 81 ∧ n ≤ 1134 ∧ (6 * w ≤ n) := by
  obtain ⟨h1, h2, h3, h4, h5, h6, h7⟩ := h
  have hw : (ps = 0 → (w : Int) = top + 1) ∧ (ps = 1 → top = 8 ∧ w = 81) := by
    refine ⟨fun q => ?_, fun q => ?_⟩
    · unfold wdF at h6
      rw [if_pos q] at h6
      exact h6
    · have h8 := h5 q
      unfold wdF at h6
      rw [if_neg (by omega), h8] at h6
      exact ⟨h8, by omega⟩
  have hw2 : 1 ≤ w ∧ w ≤ 81 := by
    rcases h3 with q | q
    · have := hw.1 q; omega
    · have := (hw.2 q).2; omega
  have hE : E = 1 ∨ E = 2 ∨ E = 3 := by omega
  refine ⟨hw.1, hw.2, hw2.1, hw2.2, ?_⟩
  rcases hE with rfl | rfl | rfl <;> constructor <;> omega
theorem sp_b {E ti ps top tw o f : Int} {w n : Nat} (h : tbN E ti ps top w n) (hv : vd E ps top tw o f) : 0 ≤ spF ps top o f ∧ spF ps top o f < w := by
  obtain ⟨w1, w2, -⟩ := tbN_w h
  obtain ⟨-, -, h3, -⟩ := h
  obtain ⟨v1, v2, v3, v4, v5, v6⟩ := hv
  unfold spF
  rcases h3 with q | q
  · have := w1 q
    have := v5 q
    rw [if_pos q]
    omega
  · obtain ⟨e1, e2⟩ := w2 q
    have := v6 q
    rw [if_neg (by omega), e1]
    omega
theorem row_b {r s w m : Int} (hr : r + 1 ≤ m) (hr0 : 0 ≤ r) (hs0 : 0 ≤ s) (hs : s < w) : 0 ≤ r * w + s ∧ r * w + s < m * w := by
  have h1 : (r + 1) * w ≤ m * w := Int.mul_le_mul_of_nonneg_right hr (by omega)
  have h2 : (r + 1) * w = r * w + w := by rw [Int.add_mul, Int.one_mul]
  have h3 : 0 ≤ r * w := Int.mul_nonneg hr0 (by omega)
  omega
theorem ix_b {E ti ps top tw o f b : Int} {w n : Nat} (h : tbN E ti ps top w n) (hv : vd E ps top tw o f) (hb : b = 0 ∨ b = 1) : 0 ≤ ixF ps top w tw o f b ∧ ixF ps top w tw o f b < n := by
  obtain ⟨s1, s2⟩ := sp_b h hv
  obtain ⟨h1, -, -, -, -, -, h7⟩ := h
  obtain ⟨v1, v2, -⟩ := hv
  rw [h7]
  exact row_b (by omega) (by omega) s1 s2
theorem row_inj {r s r' s' w : Int} (hs0 : 0 ≤ s) (hs : s < w) (hs0' : 0 ≤ s') (hs' : s' < w) (h : r * w + s = r' * w + s') : r = r' ∧ s = s' := by
  have hr : r = r' := by
    have e1 : (r * w + s) / w = r := by rw [Int.add_comm, Int.add_mul_ediv_right _ _ (by omega), Int.ediv_eq_zero_of_lt hs0 hs, Int.zero_add]
    have e2 : (r' * w + s') / w = r' := by rw [Int.add_comm, Int.add_mul_ediv_right _ _ (by omega), Int.ediv_eq_zero_of_lt hs0' hs', Int.zero_add]
    rw [← e1, h, e2]
  subst hr
  exact ⟨rfl, by omega⟩
theorem ix_inj {E ti ps top tw o f b tw' o' f' b' : Int} {w n : Nat} (h : tbN E ti ps top w n) (hv : vd E ps top tw o f) (hb : b = 0 ∨ b = 1) (hv' : vd E ps top tw' o' f') (hb' : b' = 0 ∨ b' = 1) (he : ixF ps top w tw o f b = ixF ps top w tw' o' f' b') : tw = tw' ∧ o = o' ∧ f = f' ∧ b = b' := by
  obtain ⟨s1, s2⟩ := sp_b h hv
  obtain ⟨s3, s4⟩ := sp_b h hv'
  obtain ⟨e1, e2⟩ := row_inj s1 s2 s3 s4 he
  obtain ⟨w1, w2, -⟩ := tbN_w h
  obtain ⟨-, -, h3, -⟩ := h
  obtain ⟨v1, v2, v3, v4, v5, v6⟩ := hv
  obtain ⟨u1, u2, u3, u4, u5, u6⟩ := hv'
  unfold spF at e2
  rcases h3 with q | q
  · rw [if_pos q, if_pos q] at e2
    have := v5 q
    have := u5 q
    omega
  · obtain ⟨t1, t2⟩ := w2 q
    rw [if_neg (by omega), if_neg (by omega), t1] at e2
    have := v6 q
    have := u6 q
    omega
theorem st_of {E ti ps top r x : Int} {w n : Nat} (h : tbN E ti ps top w n) (hr : 0 ≤ r ∧ r < 4 * E + 2) (hx : 0 ≤ x ∧ x < w) : vd E ps top (r / 2) (ogF ps top x) (fgF ps top x) ∧ ixF ps top w (r / 2) (ogF ps top x) (fgF ps top x) (r % 2) = r * w + x := by
  obtain ⟨w1, w2, -⟩ := tbN_w h
  obtain ⟨h1, -, h3, h4, -⟩ := h
  have e1 : 2 * (r / 2) + r % 2 = r := by omega
  unfold ixF
  rw [e1]
  unfold ogF fgF spF vd
  rcases h3 with q | q
  · have := w1 q
    rw [if_pos q, if_pos q, if_pos q]
    exact ⟨⟨by omega, by omega, by omega, by omega, by omega, by omega⟩, rfl⟩
  · obtain ⟨t1, t2⟩ := w2 q
    rw [if_neg (by omega), if_neg (by omega), if_neg (by omega), t1]
    exact ⟨⟨by omega, by omega, by omega, by omega, by omega, by omega⟩, by omega⟩
/-- a table in the pool, its times being tg -/
def TbS (S : pS) (t : Nat) (E ti ps top : Int) (ow fo tm w n : Nat) (tg : Int → Int) : Prop :=
  S t = some (oO 8 [.int (iI E), .int (iI ti), .int (iI (1 - ps)), .int (iI top), .ref ow, .ref fo, .ref tm]) ∧ S ow = some (aI w (ogF ps top)) ∧ S fo = some (aI w (fgF ps top)) ∧ S tm = some (aI n tg) ∧ (∀ x, 0 ≤ tg x ∧ tg x ≤ 9) ∧ tbN E ti ps top w n
def PL (ps top w : Int) (tg : Int → Int) (left : Int) : qP := fun tw o f b => tg (ixF ps top w tw o f b) ≤ left
section JE
variable {y : MethodName} {cc : ByteArray} {nL : Nat} {rt : Option FieldType} {d tc ts : Nat} {K : Option Value → pS → Prop} {c0 s0 : Nat} {S : pS} {pc pc1 : Nat} {L : List (Option Value)} {st : List Value}
theorem J_nm {a : Int} (k : ∀ z : Int, z = a → Jd y cc nL rt d tc ts K c0 s0 S pc L (.int (iI z) :: st)) : Jd y cc nL rt d tc ts K c0 s0 S pc L (.int (iI a) :: st) := k a rfl
theorem J_iorC {P Q : Prop} (hd : decode cc pc = .ok (.ior, 1)) (hp : pc + 1 = pc1) (k : Jd y cc nL rt d tc ts K c0 s0 S pc1 L (.int (iI (bC (P ∨ Q))) :: st)) : Jd y cc nL rt d tc ts K c0 s0 S pc L (.int (iI (bC Q)) :: .int (iI (bC P)) :: st) := by
  refine J_ior hd hp ?_
  have e : iI (bC P) ||| iI (bC Q) = iI (bC (P ∨ Q)) := by
    rcases Classical.em P with p | p <;> rcases Classical.em Q with q | q
    · rw [bC_t p, bC_t q, bC_t (Or.inl p)]; decide
    · rw [bC_t p, bC_f q, bC_t (Or.inl p)]; decide
    · rw [bC_f p, bC_t q, bC_t (Or.inr q)]; decide
    · rw [bC_f p, bC_f q, bC_f (fun z => z.elim p q)]; decide
  rw [e]
  exact k
theorem J_max {a b : Int} {ix : Nat} (a1 : -2147483648 ≤ a) (a2 : a < 2147483648) (b1 : -2147483648 ≤ b) (b2 : b < 2147483648) (hw : Cond.methodLink y.cls ix Lib.Math.max.name ∈ wsU) (hd : decode cc pc = .ok (.invokestatic ix, 3)) (hp : pc + 3 = pc1) (hdd : 1 ≤ d) (hrm : (st.map fun v => v.category).sum ≤ 8) (hc : c0 ≤ tc) (hs : s0 ≤ ts) (k : Jd y cc nL rt d tc ts K c0 s0 S pc1 L (.int (iI (mx a b)) :: st)) : Jd y cc nL rt d tc ts K c0 s0 S pc L (.int (iI b) :: .int (iI a) :: st) := by
  intro p l e R s m args below meth c D q A Q C hR H locs ls hP hS hl
  have C0 := C
  obtain ⟨hx, hb, hml, hown, hts, hrt, hlk, hini, hKK, hA, hdf, hdl, htc, hts2⟩ := C
  subst hp
  refine va_mmax hx hb (hml.trans hl.1.symm) hown (hts _ hw) (hts _ ls_max_Math) (hts _ ln_Math) (hts _ lc_max_Math) (by omega) (by omega) (by omega) (by omega) hd ?_
  have e9 : (if iI a < iI b then iI b else iI a) = iI (mx a b) := by
    unfold mx
    by_cases h9 : a < b
    · rw [if_pos h9, if_pos ((iI_lt a1 a2 b1 b2).mpr h9)]
    · rw [if_neg h9, if_neg (fun z => h9 ((iI_lt a1 a2 b1 b2).mp z))]
  rw [e9]
  exact k p l e R s m args below meth c D q A Q C0 hR H locs ls hP hS hl
theorem J_min {a b : Int} {ix : Nat} (a1 : -2147483648 ≤ a) (a2 : a < 2147483648) (b1 : -2147483648 ≤ b) (b2 : b < 2147483648) (hw : Cond.methodLink y.cls ix Lib.Math.min.name ∈ wsU) (hd : decode cc pc = .ok (.invokestatic ix, 3)) (hp : pc + 3 = pc1) (hdd : 1 ≤ d) (hrm : (st.map fun v => v.category).sum ≤ 8) (hc : c0 ≤ tc) (hs : s0 ≤ ts) (k : Jd y cc nL rt d tc ts K c0 s0 S pc1 L (.int (iI (mn a b)) :: st)) : Jd y cc nL rt d tc ts K c0 s0 S pc L (.int (iI b) :: .int (iI a) :: st) := by
  intro p l e R s m args below meth c D q A Q C hR H locs ls hP hS hl
  have C0 := C
  obtain ⟨hx, hb, hml, hown, hts, hrt, hlk, hini, hKK, hA, hdf, hdl, htc, hts2⟩ := C
  subst hp
  refine va_mmin hx hb (hml.trans hl.1.symm) hown (hts _ hw) (hts _ ls_min_Math) (hts _ ln_Math) (hts _ lc_min_Math) (by omega) (by omega) (by omega) (by omega) hd ?_
  have e9 : (if iI b < iI a then iI b else iI a) = iI (mn a b) := by
    unfold mn
    by_cases h9 : b < a
    · rw [if_pos h9, if_pos ((iI_lt b1 b2 a1 a2).mpr h9)]
    · rw [if_neg h9, if_neg (fun z => h9 ((iI_lt b1 b2 a1 a2).mp z))]
  rw [e9]
  exact k p l e R s m args below meth c D q A Q C0 hR H locs ls hP hS hl
end JE
set_option maxHeartbeats 400000 in
set_option maxRecDepth 20000 in
theorem c_X8_timeAt {S : pS} {t ow fo tm w n : Nat} {E ti ps top : Int} {tg : Int → Int} (T : TbS S t E ti ps top ow fo tm w n tg) {tw o f b : Int} (hv : vd E ps top tw o f) (hb : b = 0 ∨ b = 1) : Ct yX8_timeAt cX8_timeAt 7 (Option.some FieldType.int) 0 0 0 [.ref t, .int (iI tw), .int (iI o), .int (iI f), .int (iI b)] S (kI (tg (ixF ps top w tw o f b)) S) := by
  obtain ⟨n1, n2, n3, n4, n5, n6, n7⟩ := T.2.2.2.2.2
  obtain ⟨w1, w2, w3, w4, w5, w6⟩ := tbN_w T.2.2.2.2.2
  have hg := T.2.2.2.2.1
  obtain ⟨v1, v2, v3, v4, v5, v6⟩ := id hv
  have vt : o ≤ top ∧ f ≤ top := by omega
  refine Ct.ofJ (by decide +kernel) (Nat.le_of_ble_eq_true rfl) ?_
  refine J_L (L1 := [some (.ref t), some (.int (iI tw)), some (.int (iI o)), some (.int (iI f)), some (.int (iI b)), none, none]) rfl ?_
  refine J_iload_n (pc1 := 1) rfl (i := 2) rfl dX8_timeAt_0 rfl ?_
  refine J_if_lt (pc1 := 4) (tgt := 24) (by omega) (by omega) dX8_timeAt_1 rfl rfl (fun hc1 => ?_) (fun hc1 => ?_)
  · omega
  · refine J_iload_n (pc1 := 5) rfl (i := 2) rfl dX8_timeAt_4 rfl ?_
    refine J_aload_n (pc1 := 6) rfl (i := 0) rfl dX8_timeAt_5 rfl ?_
    refine J_get (pc1 := 9) (j := 3) inUX8 (ci := 8) rfl (by decide) lf_X8_22 dX8_timeAt_6 rfl T.1 rfl ?_
    refine J_icmp_gt (pc1 := 12) (tgt := 24) (by omega) (by omega) (by omega) (by omega) dX8_timeAt_9 rfl rfl (fun hc2 => ?_) (fun hc2 => ?_)
    · omega
    · refine J_iload_n (pc1 := 13) rfl (i := 3) rfl dX8_timeAt_12 rfl ?_
      refine J_if_lt (pc1 := 16) (tgt := 24) (by omega) (by omega) dX8_timeAt_13 rfl rfl (fun hc3 => ?_) (fun hc3 => ?_)
      · omega
      · refine J_iload_n (pc1 := 17) rfl (i := 3) rfl dX8_timeAt_16 rfl ?_
        refine J_aload_n (pc1 := 18) rfl (i := 0) rfl dX8_timeAt_17 rfl ?_
        refine J_get (pc1 := 21) (j := 3) inUX8 (ci := 8) rfl (by decide) lf_X8_22 dX8_timeAt_18 rfl T.1 rfl ?_
        refine J_icmp_le (pc1 := 24) (tgt := 27) (by omega) (by omega) (by omega) (by omega) dX8_timeAt_21 rfl rfl (fun hc4 => ?_) (fun hc4 => ?_)
        · refine J_iconst (pc1 := 28) dX8_timeAt_27 rfl ?_
          refine J_iload_n (pc1 := 29) rfl (i := 1) rfl dX8_timeAt_28 rfl ?_
          refine J_imul (pc1 := 30) dX8_timeAt_29 rfl ?_
          refine J_iload (pc1 := 32) rfl dX8_timeAt_30 rfl ?_
          refine J_if_eq (pc1 := 35) (tgt := 39) (by omega) (by omega) dX8_timeAt_32 rfl rfl (fun hc5 => ?_) (fun hc5 => ?_)
          · refine J_iconst (pc1 := 40) dX8_timeAt_39 rfl ?_
            refine J_iadd (pc1 := 41) dX8_timeAt_40 rfl ?_
            refine J_nm (fun z1 hz1 => ?_)
            have hz1r : z1 = 2 * tw + b := by omega
            refine J_istore (pc1 := 43) (L1 := [some (.ref t), some (.int (iI tw)), some (.int (iI o)), some (.int (iI f)), some (.int (iI b)), some (.int (iI z1)), none]) dX8_timeAt_41 rfl (by decide) rfl rfl ?_
            refine J_iload (pc1 := 45) rfl dX8_timeAt_43 rfl ?_
            refine J_aload_n (pc1 := 46) rfl (i := 0) rfl dX8_timeAt_45 rfl ?_
            refine J_get (pc1 := 49) (j := 4) inUX8 (ci := 8) rfl (by decide) lf_X8_31 dX8_timeAt_46 rfl T.1 rfl ?_
            refine J_alenI (pc1 := 50) dX8_timeAt_49 rfl T.2.1 ?_
            refine J_imul (pc1 := 51) dX8_timeAt_50 rfl ?_
            refine J_aload_n (pc1 := 52) rfl (i := 0) rfl dX8_timeAt_51 rfl ?_
            refine J_get (pc1 := 55) (j := 2) inUX8 (ci := 8) rfl (by decide) lf_X8_18 dX8_timeAt_52 rfl T.1 rfl ?_
            refine J_if_eq (pc1 := 58) (tgt := 62) (by omega) (by omega) dX8_timeAt_55 rfl rfl (fun hc6 => ?_) (fun hc6 => ?_)
            · refine J_iload_n (pc1 := 63) rfl (i := 2) rfl dX8_timeAt_62 rfl ?_
              refine J_aload_n (pc1 := 64) rfl (i := 0) rfl dX8_timeAt_63 rfl ?_
              refine J_get (pc1 := 67) (j := 3) inUX8 (ci := 8) rfl (by decide) lf_X8_22 dX8_timeAt_64 rfl T.1 rfl ?_
              refine J_iconst (pc1 := 68) dX8_timeAt_67 rfl ?_
              refine J_iadd (pc1 := 69) dX8_timeAt_68 rfl ?_
              refine J_imul (pc1 := 70) dX8_timeAt_69 rfl ?_
              refine J_iload_n (pc1 := 71) rfl (i := 3) rfl dX8_timeAt_70 rfl ?_
              refine J_iadd (pc1 := 72) dX8_timeAt_71 rfl ?_
              refine J_iadd (pc1 := 73) dX8_timeAt_72 rfl ?_
              refine J_nm (fun z2 hz2 => ?_)
              have hix : z2 = ixF ps top w tw o f b := by
                rw [hz2]
                unfold ixF spF
                first | rw [if_pos (by omega), hz1r] | rw [if_neg (by omega), hz1r]
              obtain ⟨i1, i2⟩ := ix_b (b := b) T.2.2.2.2.2 hv hb
              rw [← hix] at i1 i2
              refine J_istore (pc1 := 75) (L1 := [some (.ref t), some (.int (iI tw)), some (.int (iI o)), some (.int (iI f)), some (.int (iI b)), some (.int (iI z1)), some (.int (iI z2))]) dX8_timeAt_73 rfl (by decide) rfl rfl ?_
              refine J_iload (pc1 := 77) rfl dX8_timeAt_75 rfl ?_
              refine J_if_lt (pc1 := 80) (tgt := 100) (by omega) (by omega) dX8_timeAt_77 rfl rfl (fun hc7 => ?_) (fun hc7 => ?_)
              · omega
              · refine J_iload (pc1 := 82) rfl dX8_timeAt_80 rfl ?_
                refine J_aload_n (pc1 := 83) rfl (i := 0) rfl dX8_timeAt_82 rfl ?_
                refine J_get (pc1 := 86) (j := 6) inUX8 (ci := 8) rfl (by decide) lf_X8_38 dX8_timeAt_83 rfl T.1 rfl ?_
                refine J_alenI (pc1 := 87) dX8_timeAt_86 rfl T.2.2.2.1 ?_
                refine J_icmp_ge (pc1 := 90) (tgt := 100) (by omega) (by omega) (by omega) (by omega) dX8_timeAt_87 rfl rfl (fun hc8 => ?_) (fun hc8 => ?_)
                · omega
                · refine J_aload_n (pc1 := 91) rfl (i := 0) rfl dX8_timeAt_90 rfl ?_
                  refine J_get (pc1 := 94) (j := 6) inUX8 (ci := 8) rfl (by decide) lf_X8_38 dX8_timeAt_91 rfl T.1 rfl ?_
                  refine J_iload (pc1 := 96) rfl dX8_timeAt_94 rfl ?_
                  refine J_iald (pc1 := 97) dX8_timeAt_96 rfl T.2.2.2.1 (by omega) (by omega) (by omega) ?_
                  refine J_goto (tgt := 102) dX8_timeAt_97 rfl ?_
                  exact J_iret rfl rfl dX8_timeAt_102 (Nat.le_refl _) (Nat.le_refl _) (kI_mk (by rw [hix]))
            · refine J_iload_n (pc1 := 59) rfl (i := 2) rfl dX8_timeAt_58 rfl ?_
              refine J_goto (tgt := 72) dX8_timeAt_59 rfl ?_
              refine J_iadd (pc1 := 73) dX8_timeAt_72 rfl ?_
              refine J_nm (fun z3 hz3 => ?_)
              have hix : z3 = ixF ps top w tw o f b := by
                rw [hz3]
                unfold ixF spF
                first | rw [if_pos (by omega), hz1r] | rw [if_neg (by omega), hz1r]
              obtain ⟨i1, i2⟩ := ix_b (b := b) T.2.2.2.2.2 hv hb
              rw [← hix] at i1 i2
              refine J_istore (pc1 := 75) (L1 := [some (.ref t), some (.int (iI tw)), some (.int (iI o)), some (.int (iI f)), some (.int (iI b)), some (.int (iI z1)), some (.int (iI z3))]) dX8_timeAt_73 rfl (by decide) rfl rfl ?_
              refine J_iload (pc1 := 77) rfl dX8_timeAt_75 rfl ?_
              refine J_if_lt (pc1 := 80) (tgt := 100) (by omega) (by omega) dX8_timeAt_77 rfl rfl (fun hc9 => ?_) (fun hc9 => ?_)
              · omega
              · refine J_iload (pc1 := 82) rfl dX8_timeAt_80 rfl ?_
                refine J_aload_n (pc1 := 83) rfl (i := 0) rfl dX8_timeAt_82 rfl ?_
                refine J_get (pc1 := 86) (j := 6) inUX8 (ci := 8) rfl (by decide) lf_X8_38 dX8_timeAt_83 rfl T.1 rfl ?_
                refine J_alenI (pc1 := 87) dX8_timeAt_86 rfl T.2.2.2.1 ?_
                refine J_icmp_ge (pc1 := 90) (tgt := 100) (by omega) (by omega) (by omega) (by omega) dX8_timeAt_87 rfl rfl (fun hc10 => ?_) (fun hc10 => ?_)
                · omega
                · refine J_aload_n (pc1 := 91) rfl (i := 0) rfl dX8_timeAt_90 rfl ?_
                  refine J_get (pc1 := 94) (j := 6) inUX8 (ci := 8) rfl (by decide) lf_X8_38 dX8_timeAt_91 rfl T.1 rfl ?_
                  refine J_iload (pc1 := 96) rfl dX8_timeAt_94 rfl ?_
                  refine J_iald (pc1 := 97) dX8_timeAt_96 rfl T.2.2.2.1 (by omega) (by omega) (by omega) ?_
                  refine J_goto (tgt := 102) dX8_timeAt_97 rfl ?_
                  exact J_iret rfl rfl dX8_timeAt_102 (Nat.le_refl _) (Nat.le_refl _) (kI_mk (by rw [hix]))
          · refine J_iconst (pc1 := 36) dX8_timeAt_35 rfl ?_
            refine J_goto (tgt := 40) dX8_timeAt_36 rfl ?_
            refine J_iadd (pc1 := 41) dX8_timeAt_40 rfl ?_
            refine J_nm (fun z4 hz4 => ?_)
            have hz4r : z4 = 2 * tw + b := by omega
            refine J_istore (pc1 := 43) (L1 := [some (.ref t), some (.int (iI tw)), some (.int (iI o)), some (.int (iI f)), some (.int (iI b)), some (.int (iI z4)), none]) dX8_timeAt_41 rfl (by decide) rfl rfl ?_
            refine J_iload (pc1 := 45) rfl dX8_timeAt_43 rfl ?_
            refine J_aload_n (pc1 := 46) rfl (i := 0) rfl dX8_timeAt_45 rfl ?_
            refine J_get (pc1 := 49) (j := 4) inUX8 (ci := 8) rfl (by decide) lf_X8_31 dX8_timeAt_46 rfl T.1 rfl ?_
            refine J_alenI (pc1 := 50) dX8_timeAt_49 rfl T.2.1 ?_
            refine J_imul (pc1 := 51) dX8_timeAt_50 rfl ?_
            refine J_aload_n (pc1 := 52) rfl (i := 0) rfl dX8_timeAt_51 rfl ?_
            refine J_get (pc1 := 55) (j := 2) inUX8 (ci := 8) rfl (by decide) lf_X8_18 dX8_timeAt_52 rfl T.1 rfl ?_
            refine J_if_eq (pc1 := 58) (tgt := 62) (by omega) (by omega) dX8_timeAt_55 rfl rfl (fun hc11 => ?_) (fun hc11 => ?_)
            · refine J_iload_n (pc1 := 63) rfl (i := 2) rfl dX8_timeAt_62 rfl ?_
              refine J_aload_n (pc1 := 64) rfl (i := 0) rfl dX8_timeAt_63 rfl ?_
              refine J_get (pc1 := 67) (j := 3) inUX8 (ci := 8) rfl (by decide) lf_X8_22 dX8_timeAt_64 rfl T.1 rfl ?_
              refine J_iconst (pc1 := 68) dX8_timeAt_67 rfl ?_
              refine J_iadd (pc1 := 69) dX8_timeAt_68 rfl ?_
              refine J_imul (pc1 := 70) dX8_timeAt_69 rfl ?_
              refine J_iload_n (pc1 := 71) rfl (i := 3) rfl dX8_timeAt_70 rfl ?_
              refine J_iadd (pc1 := 72) dX8_timeAt_71 rfl ?_
              refine J_iadd (pc1 := 73) dX8_timeAt_72 rfl ?_
              refine J_nm (fun z5 hz5 => ?_)
              have hix : z5 = ixF ps top w tw o f b := by
                rw [hz5]
                unfold ixF spF
                first | rw [if_pos (by omega), hz4r] | rw [if_neg (by omega), hz4r]
              obtain ⟨i1, i2⟩ := ix_b (b := b) T.2.2.2.2.2 hv hb
              rw [← hix] at i1 i2
              refine J_istore (pc1 := 75) (L1 := [some (.ref t), some (.int (iI tw)), some (.int (iI o)), some (.int (iI f)), some (.int (iI b)), some (.int (iI z4)), some (.int (iI z5))]) dX8_timeAt_73 rfl (by decide) rfl rfl ?_
              refine J_iload (pc1 := 77) rfl dX8_timeAt_75 rfl ?_
              refine J_if_lt (pc1 := 80) (tgt := 100) (by omega) (by omega) dX8_timeAt_77 rfl rfl (fun hc12 => ?_) (fun hc12 => ?_)
              · omega
              · refine J_iload (pc1 := 82) rfl dX8_timeAt_80 rfl ?_
                refine J_aload_n (pc1 := 83) rfl (i := 0) rfl dX8_timeAt_82 rfl ?_
                refine J_get (pc1 := 86) (j := 6) inUX8 (ci := 8) rfl (by decide) lf_X8_38 dX8_timeAt_83 rfl T.1 rfl ?_
                refine J_alenI (pc1 := 87) dX8_timeAt_86 rfl T.2.2.2.1 ?_
                refine J_icmp_ge (pc1 := 90) (tgt := 100) (by omega) (by omega) (by omega) (by omega) dX8_timeAt_87 rfl rfl (fun hc13 => ?_) (fun hc13 => ?_)
                · omega
                · refine J_aload_n (pc1 := 91) rfl (i := 0) rfl dX8_timeAt_90 rfl ?_
                  refine J_get (pc1 := 94) (j := 6) inUX8 (ci := 8) rfl (by decide) lf_X8_38 dX8_timeAt_91 rfl T.1 rfl ?_
                  refine J_iload (pc1 := 96) rfl dX8_timeAt_94 rfl ?_
                  refine J_iald (pc1 := 97) dX8_timeAt_96 rfl T.2.2.2.1 (by omega) (by omega) (by omega) ?_
                  refine J_goto (tgt := 102) dX8_timeAt_97 rfl ?_
                  exact J_iret rfl rfl dX8_timeAt_102 (Nat.le_refl _) (Nat.le_refl _) (kI_mk (by rw [hix]))
            · refine J_iload_n (pc1 := 59) rfl (i := 2) rfl dX8_timeAt_58 rfl ?_
              refine J_goto (tgt := 72) dX8_timeAt_59 rfl ?_
              refine J_iadd (pc1 := 73) dX8_timeAt_72 rfl ?_
              refine J_nm (fun z6 hz6 => ?_)
              have hix : z6 = ixF ps top w tw o f b := by
                rw [hz6]
                unfold ixF spF
                first | rw [if_pos (by omega), hz4r] | rw [if_neg (by omega), hz4r]
              obtain ⟨i1, i2⟩ := ix_b (b := b) T.2.2.2.2.2 hv hb
              rw [← hix] at i1 i2
              refine J_istore (pc1 := 75) (L1 := [some (.ref t), some (.int (iI tw)), some (.int (iI o)), some (.int (iI f)), some (.int (iI b)), some (.int (iI z4)), some (.int (iI z6))]) dX8_timeAt_73 rfl (by decide) rfl rfl ?_
              refine J_iload (pc1 := 77) rfl dX8_timeAt_75 rfl ?_
              refine J_if_lt (pc1 := 80) (tgt := 100) (by omega) (by omega) dX8_timeAt_77 rfl rfl (fun hc14 => ?_) (fun hc14 => ?_)
              · omega
              · refine J_iload (pc1 := 82) rfl dX8_timeAt_80 rfl ?_
                refine J_aload_n (pc1 := 83) rfl (i := 0) rfl dX8_timeAt_82 rfl ?_
                refine J_get (pc1 := 86) (j := 6) inUX8 (ci := 8) rfl (by decide) lf_X8_38 dX8_timeAt_83 rfl T.1 rfl ?_
                refine J_alenI (pc1 := 87) dX8_timeAt_86 rfl T.2.2.2.1 ?_
                refine J_icmp_ge (pc1 := 90) (tgt := 100) (by omega) (by omega) (by omega) (by omega) dX8_timeAt_87 rfl rfl (fun hc15 => ?_) (fun hc15 => ?_)
                · omega
                · refine J_aload_n (pc1 := 91) rfl (i := 0) rfl dX8_timeAt_90 rfl ?_
                  refine J_get (pc1 := 94) (j := 6) inUX8 (ci := 8) rfl (by decide) lf_X8_38 dX8_timeAt_91 rfl T.1 rfl ?_
                  refine J_iload (pc1 := 96) rfl dX8_timeAt_94 rfl ?_
                  refine J_iald (pc1 := 97) dX8_timeAt_96 rfl T.2.2.2.1 (by omega) (by omega) (by omega) ?_
                  refine J_goto (tgt := 102) dX8_timeAt_97 rfl ?_
                  exact J_iret rfl rfl dX8_timeAt_102 (Nat.le_refl _) (Nat.le_refl _) (kI_mk (by rw [hix]))
        · omega
set_option maxHeartbeats 400000 in
set_option maxRecDepth 20000 in
theorem c_X8_taken {S : pS} {t ow fo tm w n : Nat} {E ti ps top : Int} {tg : Int → Int} (T : TbS S t E ti ps top ow fo tm w n tg) {left tw o f b : Int} (hv : vd E ps top tw o f) (hb : b = 0 ∨ b = 1) (hl : 0 ≤ left ∧ left ≤ 100) (ht : 0 < tw) {p : Int} (hp : 0 ≤ p ∧ p ≤ o) : Ct yX8_taken cX8_taken 8 (Option.some FieldType.boolean) 1 0 0 [.ref t, .int (iI left), .int (iI tw), .int (iI o), .int (iI f), .int (iI p), .int (iI b)] S (kI (bC (tkP ps (PL ps top w tg left) tw o f p b)) S) := by
  obtain ⟨n1, n2, n3, n4, n5, n6, n7⟩ := T.2.2.2.2.2
  obtain ⟨w1, w2, w3, w4, w5, w6⟩ := tbN_w T.2.2.2.2.2
  have hg := T.2.2.2.2.1
  obtain ⟨v1, v2, v3, v4, v5, v6⟩ := id hv
  refine Ct.ofJ (by decide +kernel) (Nat.le_of_ble_eq_true rfl) ?_
  refine J_L (L1 := [some (.ref t), some (.int (iI left)), some (.int (iI tw)), some (.int (iI o)), some (.int (iI f)), some (.int (iI p)), some (.int (iI b)), none]) rfl ?_
  refine J_aload_n (pc1 := 1) rfl (i := 0) rfl dX8_taken_0 rfl ?_
  refine J_get (pc1 := 4) (j := 2) inUX8 (ci := 8) rfl (by decide) lf_X8_18 dX8_taken_1 rfl T.1 rfl ?_
  refine J_if_eq (pc1 := 7) (tgt := 12) (by omega) (by omega) dX8_taken_4 rfl rfl (fun hc1 => ?_) (fun hc1 => ?_)
  · refine J_iconst (pc1 := 13) dX8_taken_12 rfl ?_
    refine J_nm (fun z7 hz7 => ?_)
    have hz7g : z7 = gaE ps p := by
      rw [hz7]
      unfold gaE
      first | rw [if_pos (by omega)] | rw [if_neg (by omega)]
    refine J_istore (pc1 := 15) (L1 := [some (.ref t), some (.int (iI left)), some (.int (iI tw)), some (.int (iI o)), some (.int (iI f)), some (.int (iI p)), some (.int (iI b)), some (.int (iI z7))]) dX8_taken_13 rfl (by decide) rfl rfl ?_
    refine J_aload_n (pc1 := 16) rfl (i := 0) rfl dX8_taken_15 rfl ?_
    refine J_iload_n (pc1 := 17) rfl (i := 2) rfl dX8_taken_16 rfl ?_
    refine J_iconst (pc1 := 18) dX8_taken_17 rfl ?_
    refine J_isub (pc1 := 19) dX8_taken_18 rfl ?_
    refine J_iload_n (pc1 := 20) rfl (i := 3) rfl dX8_taken_19 rfl ?_
    refine J_iload (pc1 := 22) rfl dX8_taken_20 rfl ?_
    refine J_isub (pc1 := 23) dX8_taken_22 rfl ?_
    refine J_iload (pc1 := 25) rfl dX8_taken_23 rfl ?_
    refine J_iload (pc1 := 27) rfl dX8_taken_25 rfl ?_
    refine J_iadd (pc1 := 28) dX8_taken_27 rfl ?_
    refine J_iload (pc1 := 30) rfl dX8_taken_28 rfl ?_
    have hv2 := vd_tk n3 hv (by omega) hp.1 hp.2
    rw [← hz7g] at hv2
    refine J_callVI (pc1 := 33) (As := [.int (iI (tw - 1)), .int (iI (o - p)), .int (iI (f + z7)), .int (iI b)]) gv_X8_62 yv_X8_timeAt rfl (c_X8_timeAt (tw := tw - 1) (o := o - p) (f := f + z7) (b := b) T (hv2) hb) dX8_taken_30 rfl T.1 rfl rfl (by omega) (by decide) (Nat.zero_le _) (Nat.zero_le _) (Nat.le_of_ble_eq_true rfl) ?_
    have h9 := hg (ixF ps top w (tw - 1) (o - p) (f + z7) b )
    refine J_iload_n (pc1 := 34) rfl (i := 1) rfl dX8_taken_33 rfl ?_
    refine J_icmp_gt (pc1 := 37) (tgt := 41) (by omega) (by omega) (by omega) (by omega) dX8_taken_34 rfl rfl (fun hc2 => ?_) (fun hc2 => ?_)
    · refine J_iconst (pc1 := 42) dX8_taken_41 rfl ?_
      exact J_iret rfl rfl dX8_taken_42 (Nat.le_refl _) (Nat.le_refl _) (kI_mk (by unfold tkP PL; rw [← hz7g]; first | exact (bC_t (by omega)).symm | exact (bC_f (by omega)).symm))
    · refine J_iconst (pc1 := 38) dX8_taken_37 rfl ?_
      refine J_goto (tgt := 42) dX8_taken_38 rfl ?_
      exact J_iret rfl rfl dX8_taken_42 (Nat.le_refl _) (Nat.le_refl _) (kI_mk (by unfold tkP PL; rw [← hz7g]; first | exact (bC_t (by omega)).symm | exact (bC_f (by omega)).symm))
  · refine J_iload (pc1 := 9) rfl dX8_taken_7 rfl ?_
    refine J_goto (tgt := 13) dX8_taken_9 rfl ?_
    refine J_nm (fun z8 hz8 => ?_)
    have hz8g : z8 = gaE ps p := by
      rw [hz8]
      unfold gaE
      first | rw [if_pos (by omega)] | rw [if_neg (by omega)]
    refine J_istore (pc1 := 15) (L1 := [some (.ref t), some (.int (iI left)), some (.int (iI tw)), some (.int (iI o)), some (.int (iI f)), some (.int (iI p)), some (.int (iI b)), some (.int (iI z8))]) dX8_taken_13 rfl (by decide) rfl rfl ?_
    refine J_aload_n (pc1 := 16) rfl (i := 0) rfl dX8_taken_15 rfl ?_
    refine J_iload_n (pc1 := 17) rfl (i := 2) rfl dX8_taken_16 rfl ?_
    refine J_iconst (pc1 := 18) dX8_taken_17 rfl ?_
    refine J_isub (pc1 := 19) dX8_taken_18 rfl ?_
    refine J_iload_n (pc1 := 20) rfl (i := 3) rfl dX8_taken_19 rfl ?_
    refine J_iload (pc1 := 22) rfl dX8_taken_20 rfl ?_
    refine J_isub (pc1 := 23) dX8_taken_22 rfl ?_
    refine J_iload (pc1 := 25) rfl dX8_taken_23 rfl ?_
    refine J_iload (pc1 := 27) rfl dX8_taken_25 rfl ?_
    refine J_iadd (pc1 := 28) dX8_taken_27 rfl ?_
    refine J_iload (pc1 := 30) rfl dX8_taken_28 rfl ?_
    have hv2 := vd_tk n3 hv (by omega) hp.1 hp.2
    rw [← hz8g] at hv2
    refine J_callVI (pc1 := 33) (As := [.int (iI (tw - 1)), .int (iI (o - p)), .int (iI (f + z8)), .int (iI b)]) gv_X8_62 yv_X8_timeAt rfl (c_X8_timeAt (tw := tw - 1) (o := o - p) (f := f + z8) (b := b) T (hv2) hb) dX8_taken_30 rfl T.1 rfl rfl (by omega) (by decide) (Nat.zero_le _) (Nat.zero_le _) (Nat.le_of_ble_eq_true rfl) ?_
    have h9 := hg (ixF ps top w (tw - 1) (o - p) (f + z8) b )
    refine J_iload_n (pc1 := 34) rfl (i := 1) rfl dX8_taken_33 rfl ?_
    refine J_icmp_gt (pc1 := 37) (tgt := 41) (by omega) (by omega) (by omega) (by omega) dX8_taken_34 rfl rfl (fun hc3 => ?_) (fun hc3 => ?_)
    · refine J_iconst (pc1 := 42) dX8_taken_41 rfl ?_
      exact J_iret rfl rfl dX8_taken_42 (Nat.le_refl _) (Nat.le_refl _) (kI_mk (by unfold tkP PL; rw [← hz8g]; first | exact (bC_t (by omega)).symm | exact (bC_f (by omega)).symm))
    · refine J_iconst (pc1 := 38) dX8_taken_37 rfl ?_
      refine J_goto (tgt := 42) dX8_taken_38 rfl ?_
      exact J_iret rfl rfl dX8_taken_42 (Nat.le_refl _) (Nat.le_refl _) (kI_mk (by unfold tkP PL; rw [← hz8g]; first | exact (bC_t (by omega)).symm | exact (bC_f (by omega)).symm))
set_option maxHeartbeats 400000 in
set_option maxRecDepth 20000 in
theorem c_X8_lost {S : pS} {t ow fo tm w n : Nat} {E ti ps top : Int} {tg : Int → Int} (T : TbS S t E ti ps top ow fo tm w n tg) {left tw o f b : Int} (hv : vd E ps top tw o f) (hb : b = 0 ∨ b = 1) (hl : 0 ≤ left ∧ left ≤ 100) (ht : tw < 2 * E) {p : Int} (hp : 0 ≤ p ∧ p ≤ f) : Ct yX8_lost cX8_lost 8 (Option.some FieldType.boolean) 1 0 0 [.ref t, .int (iI left), .int (iI tw), .int (iI o), .int (iI f), .int (iI p), .int (iI b)] S (kI (bC (lsP ps (PL ps top w tg left) tw o f p b)) S) := by
  obtain ⟨n1, n2, n3, n4, n5, n6, n7⟩ := T.2.2.2.2.2
  obtain ⟨w1, w2, w3, w4, w5, w6⟩ := tbN_w T.2.2.2.2.2
  have hg := T.2.2.2.2.1
  obtain ⟨v1, v2, v3, v4, v5, v6⟩ := id hv
  refine Ct.ofJ (by decide +kernel) (Nat.le_of_ble_eq_true rfl) ?_
  refine J_L (L1 := [some (.ref t), some (.int (iI left)), some (.int (iI tw)), some (.int (iI o)), some (.int (iI f)), some (.int (iI p)), some (.int (iI b)), none]) rfl ?_
  refine J_aload_n (pc1 := 1) rfl (i := 0) rfl dX8_lost_0 rfl ?_
  refine J_get (pc1 := 4) (j := 2) inUX8 (ci := 8) rfl (by decide) lf_X8_18 dX8_lost_1 rfl T.1 rfl ?_
  refine J_if_eq (pc1 := 7) (tgt := 12) (by omega) (by omega) dX8_lost_4 rfl rfl (fun hc1 => ?_) (fun hc1 => ?_)
  · refine J_iconst (pc1 := 13) dX8_lost_12 rfl ?_
    refine J_nm (fun z9 hz9 => ?_)
    have hz9g : z9 = gaE ps p := by
      rw [hz9]
      unfold gaE
      first | rw [if_pos (by omega)] | rw [if_neg (by omega)]
    refine J_istore (pc1 := 15) (L1 := [some (.ref t), some (.int (iI left)), some (.int (iI tw)), some (.int (iI o)), some (.int (iI f)), some (.int (iI p)), some (.int (iI b)), some (.int (iI z9))]) dX8_lost_13 rfl (by decide) rfl rfl ?_
    refine J_aload_n (pc1 := 16) rfl (i := 0) rfl dX8_lost_15 rfl ?_
    refine J_iload_n (pc1 := 17) rfl (i := 2) rfl dX8_lost_16 rfl ?_
    refine J_iconst (pc1 := 18) dX8_lost_17 rfl ?_
    refine J_iadd (pc1 := 19) dX8_lost_18 rfl ?_
    refine J_iload_n (pc1 := 20) rfl (i := 3) rfl dX8_lost_19 rfl ?_
    refine J_iload (pc1 := 22) rfl dX8_lost_20 rfl ?_
    refine J_iadd (pc1 := 23) dX8_lost_22 rfl ?_
    refine J_iload (pc1 := 25) rfl dX8_lost_23 rfl ?_
    refine J_iload (pc1 := 27) rfl dX8_lost_25 rfl ?_
    refine J_isub (pc1 := 28) dX8_lost_27 rfl ?_
    refine J_iload (pc1 := 30) rfl dX8_lost_28 rfl ?_
    have hv2 := vd_ls n3 hv (by omega) hp.1 hp.2
    rw [← hz9g] at hv2
    refine J_callVI (pc1 := 33) (As := [.int (iI (tw + 1)), .int (iI (o + z9)), .int (iI (f - p)), .int (iI b)]) gv_X8_62 yv_X8_timeAt rfl (c_X8_timeAt (tw := tw + 1) (o := o + z9) (f := f - p) (b := b) T (hv2) hb) dX8_lost_30 rfl T.1 rfl rfl (by omega) (by decide) (Nat.zero_le _) (Nat.zero_le _) (Nat.le_of_ble_eq_true rfl) ?_
    have h9 := hg (ixF ps top w (tw + 1) (o + z9) (f - p) b )
    refine J_iload_n (pc1 := 34) rfl (i := 1) rfl dX8_lost_33 rfl ?_
    refine J_icmp_gt (pc1 := 37) (tgt := 41) (by omega) (by omega) (by omega) (by omega) dX8_lost_34 rfl rfl (fun hc2 => ?_) (fun hc2 => ?_)
    · refine J_iconst (pc1 := 42) dX8_lost_41 rfl ?_
      exact J_iret rfl rfl dX8_lost_42 (Nat.le_refl _) (Nat.le_refl _) (kI_mk (by unfold lsP PL; rw [← hz9g]; first | exact (bC_t (by omega)).symm | exact (bC_f (by omega)).symm))
    · refine J_iconst (pc1 := 38) dX8_lost_37 rfl ?_
      refine J_goto (tgt := 42) dX8_lost_38 rfl ?_
      exact J_iret rfl rfl dX8_lost_42 (Nat.le_refl _) (Nat.le_refl _) (kI_mk (by unfold lsP PL; rw [← hz9g]; first | exact (bC_t (by omega)).symm | exact (bC_f (by omega)).symm))
  · refine J_iload (pc1 := 9) rfl dX8_lost_7 rfl ?_
    refine J_goto (tgt := 13) dX8_lost_9 rfl ?_
    refine J_nm (fun z10 hz10 => ?_)
    have hz10g : z10 = gaE ps p := by
      rw [hz10]
      unfold gaE
      first | rw [if_pos (by omega)] | rw [if_neg (by omega)]
    refine J_istore (pc1 := 15) (L1 := [some (.ref t), some (.int (iI left)), some (.int (iI tw)), some (.int (iI o)), some (.int (iI f)), some (.int (iI p)), some (.int (iI b)), some (.int (iI z10))]) dX8_lost_13 rfl (by decide) rfl rfl ?_
    refine J_aload_n (pc1 := 16) rfl (i := 0) rfl dX8_lost_15 rfl ?_
    refine J_iload_n (pc1 := 17) rfl (i := 2) rfl dX8_lost_16 rfl ?_
    refine J_iconst (pc1 := 18) dX8_lost_17 rfl ?_
    refine J_iadd (pc1 := 19) dX8_lost_18 rfl ?_
    refine J_iload_n (pc1 := 20) rfl (i := 3) rfl dX8_lost_19 rfl ?_
    refine J_iload (pc1 := 22) rfl dX8_lost_20 rfl ?_
    refine J_iadd (pc1 := 23) dX8_lost_22 rfl ?_
    refine J_iload (pc1 := 25) rfl dX8_lost_23 rfl ?_
    refine J_iload (pc1 := 27) rfl dX8_lost_25 rfl ?_
    refine J_isub (pc1 := 28) dX8_lost_27 rfl ?_
    refine J_iload (pc1 := 30) rfl dX8_lost_28 rfl ?_
    have hv2 := vd_ls n3 hv (by omega) hp.1 hp.2
    rw [← hz10g] at hv2
    refine J_callVI (pc1 := 33) (As := [.int (iI (tw + 1)), .int (iI (o + z10)), .int (iI (f - p)), .int (iI b)]) gv_X8_62 yv_X8_timeAt rfl (c_X8_timeAt (tw := tw + 1) (o := o + z10) (f := f - p) (b := b) T (hv2) hb) dX8_lost_30 rfl T.1 rfl rfl (by omega) (by decide) (Nat.zero_le _) (Nat.zero_le _) (Nat.le_of_ble_eq_true rfl) ?_
    have h9 := hg (ixF ps top w (tw + 1) (o + z10) (f - p) b )
    refine J_iload_n (pc1 := 34) rfl (i := 1) rfl dX8_lost_33 rfl ?_
    refine J_icmp_gt (pc1 := 37) (tgt := 41) (by omega) (by omega) (by omega) (by omega) dX8_lost_34 rfl rfl (fun hc3 => ?_) (fun hc3 => ?_)
    · refine J_iconst (pc1 := 42) dX8_lost_41 rfl ?_
      exact J_iret rfl rfl dX8_lost_42 (Nat.le_refl _) (Nat.le_refl _) (kI_mk (by unfold lsP PL; rw [← hz10g]; first | exact (bC_t (by omega)).symm | exact (bC_f (by omega)).symm))
    · refine J_iconst (pc1 := 38) dX8_lost_37 rfl ?_
      refine J_goto (tgt := 42) dX8_lost_38 rfl ?_
      exact J_iret rfl rfl dX8_lost_42 (Nat.le_refl _) (Nat.le_refl _) (kI_mk (by unfold lsP PL; rw [← hz10g]; first | exact (bC_t (by omega)).symm | exact (bC_f (by omega)).symm))
set_option maxHeartbeats 400000 in
set_option maxRecDepth 20000 in
theorem c_X8_neverTakes {S : pS} {t ow fo tm w n : Nat} {E ti ps top : Int} {tg : Int → Int} (T : TbS S t E ti ps top ow fo tm w n tg) {p : Int} (hp : -1000 ≤ p ∧ p ≤ 1000) : Ct yX8_neverTakes cX8_neverTakes 2 (Option.some FieldType.boolean) 0 0 0 [.ref t, .int (iI p)] S (kI (bC (p = 0 ∧ ti = 1)) S) := by
  obtain ⟨n1, n2, n3, n4, n5, n6, n7⟩ := T.2.2.2.2.2
  obtain ⟨w1, w2, w3, w4, w5, w6⟩ := tbN_w T.2.2.2.2.2
  have hg := T.2.2.2.2.1
  refine Ct.ofJ (by decide +kernel) (Nat.le_of_ble_eq_true rfl) ?_
  refine J_L (L1 := [some (.ref t), some (.int (iI p))]) rfl ?_
  refine J_iload_n (pc1 := 1) rfl (i := 1) rfl dX8_neverTakes_0 rfl ?_
  refine J_if_ne (pc1 := 4) (tgt := 16) (by omega) (by omega) dX8_neverTakes_1 rfl rfl (fun hc1 => ?_) (fun hc1 => ?_)
  · refine J_iconst (pc1 := 17) dX8_neverTakes_16 rfl ?_
    exact J_iret rfl rfl dX8_neverTakes_17 (Nat.le_refl _) (Nat.le_refl _) (kI_mk (by first | exact (bC_t (by omega)).symm | exact (bC_f (by omega)).symm))
  · refine J_aload_n (pc1 := 5) rfl (i := 0) rfl dX8_neverTakes_4 rfl ?_
    refine J_get (pc1 := 8) (j := 1) inUX8 (ci := 8) rfl (by decide) lf_X8_15 dX8_neverTakes_5 rfl T.1 rfl ?_
    refine J_iconst (pc1 := 9) dX8_neverTakes_8 rfl ?_
    refine J_icmp_ne (pc1 := 12) (tgt := 16) (by omega) (by omega) (by decide) (by decide) dX8_neverTakes_9 rfl rfl (fun hc2 => ?_) (fun hc2 => ?_)
    · refine J_iconst (pc1 := 17) dX8_neverTakes_16 rfl ?_
      exact J_iret rfl rfl dX8_neverTakes_17 (Nat.le_refl _) (Nat.le_refl _) (kI_mk (by first | exact (bC_t (by omega)).symm | exact (bC_f (by omega)).symm))
    · refine J_iconst (pc1 := 13) dX8_neverTakes_12 rfl ?_
      refine J_goto (tgt := 17) dX8_neverTakes_13 rfl ?_
      exact J_iret rfl rfl dX8_neverTakes_17 (Nat.le_refl _) (Nat.le_refl _) (kI_mk (by first | exact (bC_t (by omega)).symm | exact (bC_f (by omega)).symm))
