/-! 15.games: a family of games, by number: 0 the game, 1 and 2 the slots', 3 and on the history's -/
def FAM (S : pS) (N : Nat) (G Z O : Nat → Nat) (F : Nat → Int → Int) : Prop :=
  (∀ i, i < N → IsG S (G i) (Z i) (O i) (F i)) ∧ (∀ i j, i < N → j < N → G i = G j → i = j) ∧ (∀ i j, i < N → j < N → Z i = Z j → i = j) ∧ (∀ i j, i < N → j < N → O i = O j → i = j) ∧ ∀ i j, i < N → j < N → Z i ≠ O j
def upN {α : Type} (F : Nat → α) (i : Nat) (f : α) : Nat → α := fun k => if k = i then f else F k
theorem upN_s {α : Type} (F : Nat → α) (i : Nat) (f : α) : upN F i f i = f := if_pos rfl
theorem upN_n {α : Type} (F : Nat → α) {i k : Nat} (f : α) (h : k ≠ i) : upN F i f k = F k := if_neg h
theorem FAM_set {S T : pS} {N : Nat} {G Z O : Nat → Nat} {F : Nat → Int → Int} (h : FAM S N G Z O F) {i : Nat} (hi : i < N) {f : Int → Int} (hU : UG S (G i) (Z i) (O i) f T) : FAM T N G Z O (upN F i f) := by
  obtain ⟨h1, h2, h3, h4, h5⟩ := h
  refine ⟨fun k hk => ?_, h2, h3, h4, h5⟩
  by_cases e : k = i
  · subst e
    rw [upN_s]
    exact hU.1
  · rw [upN_n _ _ e]
    obtain ⟨a1, a2, a3, a4⟩ := h1 k hk
    obtain ⟨b1, b2, b3, b4⟩ := h1 i hi
    have ng : G k ≠ G i := fun z => e (h2 k i hk hi z)
    have nz : Z k ≠ Z i := fun z => e (h3 k i hk hi z)
    have no : O k ≠ O i := fun z => e (h4 k i hk hi z)
    exact ⟨(hU.2 _ ng (ne_ci a1 b2 (by decide)) (ne_ci a1 b3 (by decide))).trans a1, (hU.2 _ (ne_ci a2 b1 (by decide)) nz (h5 k i hk hi)).trans a2, (hU.2 _ (ne_ci a3 b1 (by decide)) (h5 i k hi hk).symm no).trans a3, a4⟩
theorem FAM_fr {S T : pS} {N : Nat} {G Z O : Nat → Nat} {F : Nat → Int → Int} (h : FAM S N G Z O F) (hf : ∀ a ci fs, S a = some (oO ci fs) → ci = 2 ∨ ci = 6 → T a = S a) : FAM T N G Z O F := by
  obtain ⟨h1, h2⟩ := h
  refine ⟨fun k hk => ?_, h2⟩
  obtain ⟨a1, a2, a3, a4⟩ := h1 k hk
  exact ⟨(hf _ _ _ a1 (Or.inl rfl)).trans a1, (hf _ _ _ a2 (Or.inr rfl)).trans a2, (hf _ _ _ a3 (Or.inr rfl)).trans a3, a4⟩
theorem FAM_sub {S : pS} {N M : Nat} {G Z O : Nat → Nat} {F : Nat → Int → Int} (h : FAM S N G Z O F) (hM : M ≤ N) : FAM S M G Z O F := by
  obtain ⟨h1, h2, h3, h4, h5⟩ := h
  exact ⟨fun i hi => h1 i (by omega), fun i j hi hj => h2 i j (by omega) (by omega), fun i j hi hj => h3 i j (by omega) (by omega), fun i j hi hj => h4 i j (by omega) (by omega), fun i j hi hj => h5 i j (by omega) (by omega)⟩
/-- a new game, number N -/
theorem FAM_new {S T : pS} {N : Nat} {G Z O : Nat → Nat} {F : Nat → Int → Int} (h : FAM S N G Z O F) {g z o : Nat} {f : Int → Int} (hg : IsG T g z o f) (sg : S g = none) (sz : S z = none) (so : S o = none) (hf : ∀ a, S a ≠ none → T a = S a) : FAM T (N + 1) (upN G N g) (upN Z N z) (upN O N o) (upN F N f) := by
  obtain ⟨h1, h2, h3, h4, h5⟩ := h
  have nn : ∀ {a : Nat} {e : pE}, S a = some e → S a ≠ none := fun h z => by rw [h] at z; cases z
  have key : ∀ i, i < N → G i ≠ g ∧ Z i ≠ z ∧ O i ≠ o ∧ Z i ≠ o ∧ O i ≠ z := fun i hi => by
    obtain ⟨a1, a2, a3, a4⟩ := h1 i hi
    exact ⟨ne_N a1 sg, ne_N a2 sz, ne_N a3 so, ne_N a2 so, ne_N a3 sz⟩
  have inj : ∀ (X : Nat → Nat) (x : Nat), (∀ i j, i < N → j < N → X i = X j → i = j) → (∀ i, i < N → X i ≠ x) → ∀ i j, i < N + 1 → j < N + 1 → upN X N x i = upN X N x j → i = j := by
    intro X x hX hx i j hi hj e
    by_cases ei : i = N
    · by_cases ej : j = N
      · omega
      · rw [ei, upN_s, upN_n _ _ ej] at e
        exact absurd e.symm (hx j (by omega))
    · by_cases ej : j = N
      · rw [ej, upN_s, upN_n _ _ ei] at e
        exact absurd e (hx i (by omega))
      · rw [upN_n _ _ ei, upN_n _ _ ej] at e
        exact hX i j (by omega) (by omega) e
  refine ⟨fun k hk => ?_, inj G g h2 (fun i hi => (key i hi).1), inj Z z h3 (fun i hi => (key i hi).2.1), inj O o h4 (fun i hi => (key i hi).2.2.1), fun i j hi hj => ?_⟩
  · by_cases e : k = N
    · subst e
      rw [upN_s, upN_s, upN_s, upN_s]
      exact hg
    · rw [upN_n _ _ e, upN_n _ _ e, upN_n _ _ e, upN_n _ _ e]
      obtain ⟨a1, a2, a3, a4⟩ := h1 k (by omega)
      exact ⟨(hf _ (nn a1)).trans a1, (hf _ (nn a2)).trans a2, (hf _ (nn a3)).trans a3, a4⟩
  · by_cases ei : i = N
    · by_cases ej : j = N
      · rw [ei, ej, upN_s, upN_s]; exact hg.2.2.2
      · rw [ei, upN_s, upN_n _ _ ej]
        exact ((key j (by omega)).2.2.2.2).symm
    · by_cases ej : j = N
      · rw [ej, upN_s, upN_n _ _ ei]
        exact (key i (by omega)).2.2.2.1
      · rw [upN_n _ _ ei, upN_n _ _ ej]
        exact h5 i j (by omega) (by omega)
/-- the games by other numbers -/
theorem FAM_perm {S : pS} {N : Nat} {G Z O : Nat → Nat} {F : Nat → Int → Int} (h : FAM S N G Z O F) (p : Nat → Nat) (hp : ∀ i, i < N → p i < N) (hi : ∀ i j, i < N → j < N → p i = p j → i = j) : FAM S N (fun i => G (p i)) (fun i => Z (p i)) (fun i => O (p i)) (fun i => F (p i)) := by
  obtain ⟨h1, h2, h3, h4, h5⟩ := h
  exact ⟨fun i h => h1 _ (hp i h), fun i j a b e => hi i j a b (h2 _ _ (hp i a) (hp j b) e), fun i j a b e => hi i j a b (h3 _ _ (hp i a) (hp j b) e), fun i j a b e => hi i j a b (h4 _ _ (hp i a) (hp j b) e), fun i j a b => h5 _ _ (hp i a) (hp j b)⟩
/-- the history: n states, m games made -/
def HisOK (S : pS) (h ha n m : Nat) (G : Nat → Nat) : Prop := S h = some (oO 3 [.ref ha, .int (iI (n : Int))]) ∧ (∃ st : Int → Option Nat, S ha = some (aQ 0 6 st) ∧ (∀ i : Nat, i < m → st i = some (G (3 + i))) ∧ ∀ i : Nat, m ≤ i → i < 6 → st i = none) ∧ n ≤ m ∧ m ≤ 6
/-- a game is kept: the rows behind -/
def kpF (n : Nat) (F : Nat → Int → Int) : Nat → Int → Int := fun i => if n = 6 then (if i < 3 then F i else if i < 8 then F (i + 1) else F 0) else if i = 3 + n then F 0 else F i
def kpN (n : Nat) : Nat := if n = 6 then 6 else n + 1
/-- history and family behind keepState; what else is there stays -/
def KKS (S : pS) (h ha n m : Nat) (G Z O : Nat → Nat) (F : Nat → Int → Int) : pS → Prop := fun T => ∃ (m' : Nat) (G' Z' O' : Nat → Nat) (F' : Nat → Int → Int), HisOK T h ha (kpN n) m' G' ∧ FAM T (3 + m') G' Z' O' F' ∧ (∀ i, i < 3 + kpN n → F' i = kpF n F i) ∧ (∀ i, i < 3 → G' i = G i) ∧
  (∀ a, S a ≠ none → a ≠ h → a ≠ ha → (∀ i, 3 ≤ i → i < 3 + m → a ≠ G i ∧ a ≠ Z i ∧ a ≠ O i) → T a = S a)
def rtF (i : Nat) : Nat := if i < 3 then i else if i < 8 then i + 1 else 3
theorem rtF_b : ∀ i, i < 9 → rtF i < 9 := by decide
theorem rtF_i : ∀ i j, i < 9 → j < 9 → rtF i = rtF j → i = j := by
  intro i j hi hj h
  unfold rtF at h
  (repeat' split at h) <;> omega
def KDO (S : pS) (h ha : Nat) (G : Nat → Nat) : pS → Prop := fun T => T h = some (oO 3 [.ref ha, .int (iI ((5 : Nat) : Int))]) ∧ (∃ st : Int → Option Nat, T ha = some (aQ 0 6 st) ∧ ∀ i : Nat, i < 6 → st i = some (G (rtF (3 + i)))) ∧ ∀ a, a ≠ h → a ≠ ha → T a = S a
theorem rtQ {st : Int → Option Nat} {G : Nat → Nat} {i : Nat} (hi : i < 6) : uQ (uQ (uQ (uQ (uQ (uQ st 0 (some (G 4))) 1 (some (G 5))) 2 (some (G 6))) 3 (some (G 7))) 4 (some (G 8))) 5 (some (G 3)) (i : Int) = some (G (rtF (3 + i))) := by
  have h : i = 0 ∨ i = 1 ∨ i = 2 ∨ i = 3 ∨ i = 4 ∨ i = 5 := by omega
  rcases h with rfl | rfl | rfl | rfl | rfl | rfl <;> rfl
set_option maxHeartbeats 400000 in
set_option maxRecDepth 20000 in
theorem c_X3_init {S : pS} {h : Nat} (hh : S h = some (oO 3 [.null, .int (iI 0)])) : Ct yX3_init cX3_init 1 none 1 1 6 [.ref h] S (kNS (fun T => ∃ ha, (∀ G, HisOK T h ha 0 0 G) ∧ S ha = none ∧ ∀ a, S a ≠ none → a ≠ h → T a = S a)) := by
  refine Ct.ofJ (by decide +kernel) (Nat.le_of_ble_eq_true rfl) ?_
  refine J_L (L1 := [some (.ref h)]) rfl ?_
  refine J_aload_n (pc1 := 1) rfl (i := 0) rfl dX3_init_0 rfl ?_
  refine J_objInit (pc1 := 4) lm_X3_3 li_init_Object lc_init_Object dX3_init_1 rfl (by omega) (by decide) ?_
  refine J_aload_n (pc1 := 5) rfl (i := 0) rfl dX3_init_4 rfl ?_
  refine J_bipush (pc1 := 7) (by decide) dX3_init_5 rfl ?_
  refine J_newG (pc1 := 10) (n := 6) ll_X3_9 dX3_init_7 rfl rfl (by omega) (by omega) (by omega) (fun q1 n1 => ?_)
  have e_h_q1 : h ≠ q1 := ne_N hh n1
  refine J_putF (pc1 := 13) (ty := (.array (.object "BorrowedHours$Game"))) (j := 0) (fs1 := [.ref q1, .int (iI 0)]) inUX3 (ci := 3) rfl (by decide) tyX3 tyX3_ok nmX3 rfl rfl rfl (by decide +kernel) lf_X3_11 dX3_init_10 rfl ((pu_ne _ _ e_h_q1).trans hh) rfl (by rfl) (Nat.le_of_ble_eq_true rfl) rfl ?_
  exact J_vret rfl dX3_init_13 (by omega) (by omega) (⟨rfl, q1, fun G => ⟨(pu_self _ _ _), ⟨_, ((pu_ne _ _ (Ne.symm e_h_q1)).trans (pu_self _ _ _)), fun i hi => absurd hi (Nat.not_lt_zero i), fun i _ _ => rfl⟩, by omega, by omega⟩, n1, fun a a1 a2 => ((pu_ne _ _ a2).trans (pu_ne _ _ (fun z9 => a1 (by rw [z9]; exact n1))))⟩)
set_option maxHeartbeats 1000000 in
set_option maxRecDepth 20000 in
theorem c_X3_dropOldest {S : pS} {h ha : Nat} {G Z O : Nat → Nat} {F : Nat → Int → Int} (H : HisOK S h ha 6 6 G) (A : FAM S (3 + 6) G Z O F) : Ct yX3_dropOldest cX3_dropOldest 3 none 0 0 0 [.ref h] S (kNS (KDO S h ha G)) := by
  obtain ⟨H1, ⟨st, H2, H3, H4⟩, H5, H6⟩ := id H
  refine Ct.ofJ (by decide +kernel) (Nat.le_of_ble_eq_true rfl) ?_
  refine J_L (L1 := [some (.ref h), none, none]) rfl ?_
  refine J_aload_n (pc1 := 1) rfl (i := 0) rfl dX3_dropOldest_0 rfl ?_
  refine J_get (pc1 := 4) (j := 0) inUX3 (ci := 3) rfl (by decide) lf_X3_11 dX3_dropOldest_1 rfl H1 rfl ?_
  refine J_alenG (pc1 := 5) dX3_dropOldest_4 rfl H2 ?_
  refine J_if_ne (pc1 := 8) (tgt := 9) (by decide) (by decide) dX3_dropOldest_5 rfl rfl (fun hc1 => ?_) (fun hc1 => ?_)
  · refine J_aload_n (pc1 := 10) rfl (i := 0) rfl dX3_dropOldest_9 rfl ?_
    refine J_get (pc1 := 13) (j := 0) inUX3 (ci := 3) rfl (by decide) lf_X3_11 dX3_dropOldest_10 rfl H1 rfl ?_
    refine J_iconst (pc1 := 14) dX3_dropOldest_13 rfl ?_
    refine J_aaldG (pc1 := 15) dX3_dropOldest_14 rfl H2 (by omega) (by omega) (by omega) ?_
    refine J_st (st1 := [.ref (G 3)]) (by rw [show st 0 = some (G 3) by (first | exact H3 0 (by omega) | (unfold uQ; exact H3 0 (by omega)))]; rfl) ?_
    refine J_astore_n (pc1 := 16) (L1 := [some (.ref h), some (.ref (G 3)), none]) rfl (i := 1) dX3_dropOldest_15 rfl (by decide) rfl rfl ?_
    refine J_iconst (pc1 := 17) dX3_dropOldest_16 rfl ?_
    refine J_istore_n (pc1 := 18) (L1 := [some (.ref h), some (.ref (G 3)), some (.int (iI 1))]) rfl (i := 2) dX3_dropOldest_17 rfl (by decide) rfl rfl ?_
    refine J_iload_n (pc1 := 19) rfl (i := 2) rfl dX3_dropOldest_18 rfl ?_
    refine J_aload_n (pc1 := 20) rfl (i := 0) rfl dX3_dropOldest_19 rfl ?_
    refine J_get (pc1 := 23) (j := 0) inUX3 (ci := 3) rfl (by decide) lf_X3_11 dX3_dropOldest_20 rfl H1 rfl ?_
    refine J_alenG (pc1 := 24) dX3_dropOldest_23 rfl H2 ?_
    refine J_icmp_ge (pc1 := 27) (tgt := 47) (by decide) (by decide) (by decide) (by decide) dX3_dropOldest_24 rfl rfl (fun hc2 => ?_) (fun hc2 => ?_)
    · exact absurd hc2 (by decide)
    · refine J_aload_n (pc1 := 28) rfl (i := 0) rfl dX3_dropOldest_27 rfl ?_
      refine J_get (pc1 := 31) (j := 0) inUX3 (ci := 3) rfl (by decide) lf_X3_11 dX3_dropOldest_28 rfl H1 rfl ?_
      refine J_iload_n (pc1 := 32) rfl (i := 2) rfl dX3_dropOldest_31 rfl ?_
      refine J_iconst (pc1 := 33) dX3_dropOldest_32 rfl ?_
      refine J_isubE (pc1 := 34) (z := 0) (by decide) dX3_dropOldest_33 rfl ?_
      refine J_aload_n (pc1 := 35) rfl (i := 0) rfl dX3_dropOldest_34 rfl ?_
      refine J_get (pc1 := 38) (j := 0) inUX3 (ci := 3) rfl (by decide) lf_X3_11 dX3_dropOldest_35 rfl H1 rfl ?_
      refine J_iload_n (pc1 := 39) rfl (i := 2) rfl dX3_dropOldest_38 rfl ?_
      refine J_aaldG (pc1 := 40) dX3_dropOldest_39 rfl H2 (by omega) (by omega) (by omega) ?_
      refine J_st (st1 := [.ref (G 4), .int (iI 0), .ref ha]) (by rw [show st 1 = some (G 4) by (first | exact H3 1 (by omega) | (unfold uQ; exact H3 1 (by omega)))]; rfl) ?_
      refine J_aastG (pc1 := 41) dX3_dropOldest_40 rfl H2 (A.1 4 (by omega)).1 (by omega) (by omega) (by omega) ?_
      refine J_iinc (pc1 := 44) (L1 := [some (.ref h), some (.ref (G 3)), some (.int (iI 2))]) dX3_dropOldest_41 rfl rfl (by decide) rfl rfl ?_
      refine J_goto (tgt := 18) dX3_dropOldest_44 rfl ?_
      refine J_iload_n (pc1 := 19) rfl (i := 2) rfl dX3_dropOldest_18 rfl ?_
      refine J_aload_n (pc1 := 20) rfl (i := 0) rfl dX3_dropOldest_19 rfl ?_
      refine J_get (pc1 := 23) (j := 0) inUX3 (ci := 3) rfl (by decide) lf_X3_11 dX3_dropOldest_20 rfl ((pu_ne _ _ (ne_OQ H1 H2)).trans H1) rfl ?_
      refine J_alenG (pc1 := 24) dX3_dropOldest_23 rfl (pu_self _ _ _) ?_
      refine J_icmp_ge (pc1 := 27) (tgt := 47) (by decide) (by decide) (by decide) (by decide) dX3_dropOldest_24 rfl rfl (fun hc3 => ?_) (fun hc3 => ?_)
      · exact absurd hc3 (by decide)
      · refine J_aload_n (pc1 := 28) rfl (i := 0) rfl dX3_dropOldest_27 rfl ?_
        refine J_get (pc1 := 31) (j := 0) inUX3 (ci := 3) rfl (by decide) lf_X3_11 dX3_dropOldest_28 rfl ((pu_ne _ _ (ne_OQ H1 H2)).trans H1) rfl ?_
        refine J_iload_n (pc1 := 32) rfl (i := 2) rfl dX3_dropOldest_31 rfl ?_
        refine J_iconst (pc1 := 33) dX3_dropOldest_32 rfl ?_
        refine J_isubE (pc1 := 34) (z := 1) (by decide) dX3_dropOldest_33 rfl ?_
        refine J_aload_n (pc1 := 35) rfl (i := 0) rfl dX3_dropOldest_34 rfl ?_
        refine J_get (pc1 := 38) (j := 0) inUX3 (ci := 3) rfl (by decide) lf_X3_11 dX3_dropOldest_35 rfl ((pu_ne _ _ (ne_OQ H1 H2)).trans H1) rfl ?_
        refine J_iload_n (pc1 := 39) rfl (i := 2) rfl dX3_dropOldest_38 rfl ?_
        refine J_aaldG (pc1 := 40) dX3_dropOldest_39 rfl (pu_self _ _ _) (by omega) (by omega) (by omega) ?_
        refine J_st (st1 := [.ref (G 5), .int (iI 1), .ref ha]) (by rw [show (uQ st 0 (some (G 4))) 2 = some (G 5) by (first | exact H3 2 (by omega) | (unfold uQ; exact H3 2 (by omega)))]; rfl) ?_
        refine J_aastG (pc1 := 41) dX3_dropOldest_40 rfl (pu_self _ _ _) ((pu_ne _ _ (ne_OQ (A.1 5 (by omega)).1 H2)).trans (A.1 5 (by omega)).1) (by omega) (by omega) (by omega) ?_
        rw [pu_pu]
        refine J_iinc (pc1 := 44) (L1 := [some (.ref h), some (.ref (G 3)), some (.int (iI 3))]) dX3_dropOldest_41 rfl rfl (by decide) rfl rfl ?_
        refine J_goto (tgt := 18) dX3_dropOldest_44 rfl ?_
        refine J_iload_n (pc1 := 19) rfl (i := 2) rfl dX3_dropOldest_18 rfl ?_
        refine J_aload_n (pc1 := 20) rfl (i := 0) rfl dX3_dropOldest_19 rfl ?_
        refine J_get (pc1 := 23) (j := 0) inUX3 (ci := 3) rfl (by decide) lf_X3_11 dX3_dropOldest_20 rfl ((pu_ne _ _ (ne_OQ H1 H2)).trans H1) rfl ?_
        refine J_alenG (pc1 := 24) dX3_dropOldest_23 rfl (pu_self _ _ _) ?_
        refine J_icmp_ge (pc1 := 27) (tgt := 47) (by decide) (by decide) (by decide) (by decide) dX3_dropOldest_24 rfl rfl (fun hc4 => ?_) (fun hc4 => ?_)
        · exact absurd hc4 (by decide)
        · refine J_aload_n (pc1 := 28) rfl (i := 0) rfl dX3_dropOldest_27 rfl ?_
          refine J_get (pc1 := 31) (j := 0) inUX3 (ci := 3) rfl (by decide) lf_X3_11 dX3_dropOldest_28 rfl ((pu_ne _ _ (ne_OQ H1 H2)).trans H1) rfl ?_
          refine J_iload_n (pc1 := 32) rfl (i := 2) rfl dX3_dropOldest_31 rfl ?_
          refine J_iconst (pc1 := 33) dX3_dropOldest_32 rfl ?_
          refine J_isubE (pc1 := 34) (z := 2) (by decide) dX3_dropOldest_33 rfl ?_
          refine J_aload_n (pc1 := 35) rfl (i := 0) rfl dX3_dropOldest_34 rfl ?_
          refine J_get (pc1 := 38) (j := 0) inUX3 (ci := 3) rfl (by decide) lf_X3_11 dX3_dropOldest_35 rfl ((pu_ne _ _ (ne_OQ H1 H2)).trans H1) rfl ?_
          refine J_iload_n (pc1 := 39) rfl (i := 2) rfl dX3_dropOldest_38 rfl ?_
          refine J_aaldG (pc1 := 40) dX3_dropOldest_39 rfl (pu_self _ _ _) (by omega) (by omega) (by omega) ?_
          refine J_st (st1 := [.ref (G 6), .int (iI 2), .ref ha]) (by rw [show (uQ (uQ st 0 (some (G 4))) 1 (some (G 5))) 3 = some (G 6) by (first | exact H3 3 (by omega) | (unfold uQ; exact H3 3 (by omega)))]; rfl) ?_
          refine J_aastG (pc1 := 41) dX3_dropOldest_40 rfl (pu_self _ _ _) ((pu_ne _ _ (ne_OQ (A.1 6 (by omega)).1 H2)).trans (A.1 6 (by omega)).1) (by omega) (by omega) (by omega) ?_
          rw [pu_pu]
          refine J_iinc (pc1 := 44) (L1 := [some (.ref h), some (.ref (G 3)), some (.int (iI 4))]) dX3_dropOldest_41 rfl rfl (by decide) rfl rfl ?_
          refine J_goto (tgt := 18) dX3_dropOldest_44 rfl ?_
          refine J_iload_n (pc1 := 19) rfl (i := 2) rfl dX3_dropOldest_18 rfl ?_
          refine J_aload_n (pc1 := 20) rfl (i := 0) rfl dX3_dropOldest_19 rfl ?_
          refine J_get (pc1 := 23) (j := 0) inUX3 (ci := 3) rfl (by decide) lf_X3_11 dX3_dropOldest_20 rfl ((pu_ne _ _ (ne_OQ H1 H2)).trans H1) rfl ?_
          refine J_alenG (pc1 := 24) dX3_dropOldest_23 rfl (pu_self _ _ _) ?_
          refine J_icmp_ge (pc1 := 27) (tgt := 47) (by decide) (by decide) (by decide) (by decide) dX3_dropOldest_24 rfl rfl (fun hc5 => ?_) (fun hc5 => ?_)
          · exact absurd hc5 (by decide)
          · refine J_aload_n (pc1 := 28) rfl (i := 0) rfl dX3_dropOldest_27 rfl ?_
            refine J_get (pc1 := 31) (j := 0) inUX3 (ci := 3) rfl (by decide) lf_X3_11 dX3_dropOldest_28 rfl ((pu_ne _ _ (ne_OQ H1 H2)).trans H1) rfl ?_
            refine J_iload_n (pc1 := 32) rfl (i := 2) rfl dX3_dropOldest_31 rfl ?_
            refine J_iconst (pc1 := 33) dX3_dropOldest_32 rfl ?_
            refine J_isubE (pc1 := 34) (z := 3) (by decide) dX3_dropOldest_33 rfl ?_
            refine J_aload_n (pc1 := 35) rfl (i := 0) rfl dX3_dropOldest_34 rfl ?_
            refine J_get (pc1 := 38) (j := 0) inUX3 (ci := 3) rfl (by decide) lf_X3_11 dX3_dropOldest_35 rfl ((pu_ne _ _ (ne_OQ H1 H2)).trans H1) rfl ?_
            refine J_iload_n (pc1 := 39) rfl (i := 2) rfl dX3_dropOldest_38 rfl ?_
            refine J_aaldG (pc1 := 40) dX3_dropOldest_39 rfl (pu_self _ _ _) (by omega) (by omega) (by omega) ?_
            refine J_st (st1 := [.ref (G 7), .int (iI 3), .ref ha]) (by rw [show (uQ (uQ (uQ st 0 (some (G 4))) 1 (some (G 5))) 2 (some (G 6))) 4 = some (G 7) by (first | exact H3 4 (by omega) | (unfold uQ; exact H3 4 (by omega)))]; rfl) ?_
            refine J_aastG (pc1 := 41) dX3_dropOldest_40 rfl (pu_self _ _ _) ((pu_ne _ _ (ne_OQ (A.1 7 (by omega)).1 H2)).trans (A.1 7 (by omega)).1) (by omega) (by omega) (by omega) ?_
            rw [pu_pu]
            refine J_iinc (pc1 := 44) (L1 := [some (.ref h), some (.ref (G 3)), some (.int (iI 5))]) dX3_dropOldest_41 rfl rfl (by decide) rfl rfl ?_
            refine J_goto (tgt := 18) dX3_dropOldest_44 rfl ?_
            refine J_iload_n (pc1 := 19) rfl (i := 2) rfl dX3_dropOldest_18 rfl ?_
            refine J_aload_n (pc1 := 20) rfl (i := 0) rfl dX3_dropOldest_19 rfl ?_
            refine J_get (pc1 := 23) (j := 0) inUX3 (ci := 3) rfl (by decide) lf_X3_11 dX3_dropOldest_20 rfl ((pu_ne _ _ (ne_OQ H1 H2)).trans H1) rfl ?_
            refine J_alenG (pc1 := 24) dX3_dropOldest_23 rfl (pu_self _ _ _) ?_
            refine J_icmp_ge (pc1 := 27) (tgt := 47) (by decide) (by decide) (by decide) (by decide) dX3_dropOldest_24 rfl rfl (fun hc6 => ?_) (fun hc6 => ?_)
            · exact absurd hc6 (by decide)
            · refine J_aload_n (pc1 := 28) rfl (i := 0) rfl dX3_dropOldest_27 rfl ?_
              refine J_get (pc1 := 31) (j := 0) inUX3 (ci := 3) rfl (by decide) lf_X3_11 dX3_dropOldest_28 rfl ((pu_ne _ _ (ne_OQ H1 H2)).trans H1) rfl ?_
              refine J_iload_n (pc1 := 32) rfl (i := 2) rfl dX3_dropOldest_31 rfl ?_
              refine J_iconst (pc1 := 33) dX3_dropOldest_32 rfl ?_
              refine J_isubE (pc1 := 34) (z := 4) (by decide) dX3_dropOldest_33 rfl ?_
              refine J_aload_n (pc1 := 35) rfl (i := 0) rfl dX3_dropOldest_34 rfl ?_
              refine J_get (pc1 := 38) (j := 0) inUX3 (ci := 3) rfl (by decide) lf_X3_11 dX3_dropOldest_35 rfl ((pu_ne _ _ (ne_OQ H1 H2)).trans H1) rfl ?_
              refine J_iload_n (pc1 := 39) rfl (i := 2) rfl dX3_dropOldest_38 rfl ?_
              refine J_aaldG (pc1 := 40) dX3_dropOldest_39 rfl (pu_self _ _ _) (by omega) (by omega) (by omega) ?_
              refine J_st (st1 := [.ref (G 8), .int (iI 4), .ref ha]) (by rw [show (uQ (uQ (uQ (uQ st 0 (some (G 4))) 1 (some (G 5))) 2 (some (G 6))) 3 (some (G 7))) 5 = some (G 8) by (first | exact H3 5 (by omega) | (unfold uQ; exact H3 5 (by omega)))]; rfl) ?_
              refine J_aastG (pc1 := 41) dX3_dropOldest_40 rfl (pu_self _ _ _) ((pu_ne _ _ (ne_OQ (A.1 8 (by omega)).1 H2)).trans (A.1 8 (by omega)).1) (by omega) (by omega) (by omega) ?_
              rw [pu_pu]
              refine J_iinc (pc1 := 44) (L1 := [some (.ref h), some (.ref (G 3)), some (.int (iI 6))]) dX3_dropOldest_41 rfl rfl (by decide) rfl rfl ?_
              refine J_goto (tgt := 18) dX3_dropOldest_44 rfl ?_
              refine J_iload_n (pc1 := 19) rfl (i := 2) rfl dX3_dropOldest_18 rfl ?_
              refine J_aload_n (pc1 := 20) rfl (i := 0) rfl dX3_dropOldest_19 rfl ?_
              refine J_get (pc1 := 23) (j := 0) inUX3 (ci := 3) rfl (by decide) lf_X3_11 dX3_dropOldest_20 rfl ((pu_ne _ _ (ne_OQ H1 H2)).trans H1) rfl ?_
              refine J_alenG (pc1 := 24) dX3_dropOldest_23 rfl (pu_self _ _ _) ?_
              refine J_icmp_ge (pc1 := 27) (tgt := 47) (by decide) (by decide) (by decide) (by decide) dX3_dropOldest_24 rfl rfl (fun hc7 => ?_) (fun hc7 => ?_)
              · refine J_aload_n (pc1 := 48) rfl (i := 0) rfl dX3_dropOldest_47 rfl ?_
                refine J_aload_n (pc1 := 49) rfl (i := 0) rfl dX3_dropOldest_48 rfl ?_
                refine J_get (pc1 := 52) (j := 0) inUX3 (ci := 3) rfl (by decide) lf_X3_11 dX3_dropOldest_49 rfl ((pu_ne _ _ (ne_OQ H1 H2)).trans H1) rfl ?_
                refine J_alenG (pc1 := 53) dX3_dropOldest_52 rfl (pu_self _ _ _) ?_
                refine J_iconst (pc1 := 54) dX3_dropOldest_53 rfl ?_
                refine J_isubE (pc1 := 55) (z := 5) (by decide) dX3_dropOldest_54 rfl ?_
                refine J_put (pc1 := 58) (ty := .int) (j := 1) (fs1 := [.ref ha, .int (iI 5)]) inUX3 (ci := 3) rfl (by decide) tyX3 tyX3_ok nmX3 rfl (by decide +kernel) lf_X3_17 dX3_dropOldest_55 rfl ((pu_ne _ _ (ne_OQ H1 H2)).trans H1) rfl (by rfl) (Nat.le_of_ble_eq_true rfl) rfl ?_
                refine J_aload_n (pc1 := 59) rfl (i := 0) rfl dX3_dropOldest_58 rfl ?_
                refine J_get (pc1 := 62) (j := 0) inUX3 (ci := 3) rfl (by decide) lf_X3_11 dX3_dropOldest_59 rfl (pu_self _ _ _) rfl ?_
                refine J_aload_n (pc1 := 63) rfl (i := 0) rfl dX3_dropOldest_62 rfl ?_
                refine J_get (pc1 := 66) (j := 1) inUX3 (ci := 3) rfl (by decide) lf_X3_17 dX3_dropOldest_63 rfl (pu_self _ _ _) rfl ?_
                refine J_aload_n (pc1 := 67) rfl (i := 1) rfl dX3_dropOldest_66 rfl ?_
                refine J_aastG (pc1 := 68) dX3_dropOldest_67 rfl ((pu_ne _ _ (ne_QO H2 H1)).trans (pu_self _ _ _)) ((pu_ne _ _ (ne_ci (A.1 3 (by omega)).1 H1 (by decide))).trans ((pu_ne _ _ (ne_OQ (A.1 3 (by omega)).1 H2)).trans (A.1 3 (by omega)).1)) (by omega) (by omega) (by omega) ?_
                exact J_vret rfl dX3_dropOldest_68 (Nat.le_refl _) (Nat.le_refl _) (⟨rfl, ((pu_ne _ _ (ne_OQ H1 H2)).trans (pu_self _ _ _)), ⟨_, (pu_self _ _ _), fun i hi => rtQ hi⟩, fun a a1 a2 => ((pu_ne _ _ a2).trans ((pu_ne _ _ a1).trans (pu_ne _ _ a2)))⟩)
              · exact absurd hc7 (by decide)
  · exact absurd hc1 (by decide)
