/-! 27.well: isWell -/
set_option maxHeartbeats 2000000 in
set_option maxRecDepth 20000 in
theorem iw_in {A : Nat → Nat} {g : GS} {tx : Int → Int} {L : Nat} {p : Int} {c s : Nat} (hp : p = 0 ∨ p = 1) (hc : c + 72 ≤ 260) (hs : s + 23454 ≤ 83000) (k : ∀ S, XT S A g tx L → Jd yL_isWell cL_isWell 7 (some .boolean) 16 260 83000 (kIS 1 (fun T => XT T A g tx L)) (c + 72) (s + 23454) S 320 [some (.ref (A 0)), some (.int (iI 1)), some (.int (iI (tmF g.1 0))), some (.int (iI (tmF g.1 1))), some (.int (iI p)), some (.int (iI (tmF g.1 p))), some (.int (iI (((9 : Nat) : Int))))] []) : ∀ (r n : Nat), n + r = 9 → ∀ S, XT S A g tx L → Jd yL_isWell cL_isWell 7 (some .boolean) 16 260 83000 (kIS 1 (fun T => XT T A g tx L)) (c + 8 * n) (s + 2606 * n) S 244 [some (.ref (A 0)), some (.int (iI 1)), some (.int (iI (tmF g.1 0))), some (.int (iI (tmF g.1 1))), some (.int (iI p)), some (.int (iI (tmF g.1 p))), some (.int (iI ((n : Int))))] [] := by
  intro r
  induction r with
  | zero =>
    intro n hn S hX
    have hn9 : n = 9 := by omega
    subst hn9
    refine J_iload (pc1 := 246) rfl dL_isWell_244 rfl ?_
    refine J_bipush (pc1 := 248) (by decide) dL_isWell_246 rfl ?_
    refine J_icmp_ge (pc1 := 251) (tgt := 320) (by omega) (by omega) (by decide) (by decide) dL_isWell_248 rfl rfl (fun hc1 => ?_) (fun hc1 => ?_)
    · exact J_w (by omega) (by omega) (k _ hX)
    · exact absurd (show (9 : Int) ≤ ((9 : Nat) : Int) by decide) hc1
  | succ r ih =>
    intro n hn S hX
    have htb := tm_b g.1 p
    have k308 : ∀ S, XT S A g tx L → Jd yL_isWell cL_isWell 7 (some .boolean) 16 260 83000 (kIS 1 (fun T => XT T A g tx L)) (c + 8 * n + 8) (s + 2606 * n + 2606) S 308 [some (.ref (A 0)), some (.int (iI 1)), some (.int (iI (tmF g.1 0))), some (.int (iI (tmF g.1 1))), some (.int (iI p)), some (.int (iI (tmF g.1 p))), some (.int (iI ((n : Int))))] [] := by
      intro S hX
      refine J_iconst (pc1 := 309) dL_isWell_308 rfl ?_
      refine J_goto (tgt := 313) dL_isWell_309 rfl ?_
      refine J_istore_n (pc1 := 314) (L1 := [some (.ref (A 0)), some (.int (iI 1)), some (.int (iI (tmF g.1 0))), some (.int (iI (tmF g.1 1))), some (.int (iI p)), some (.int (iI (tmF g.1 p))), some (.int (iI ((n : Int))))]) rfl (i := 1) dL_isWell_313 rfl (by decide) rfl rfl ?_
      refine J_iinc (pc1 := 317) (L1 := [some (.ref (A 0)), some (.int (iI 1)), some (.int (iI (tmF g.1 0))), some (.int (iI (tmF g.1 1))), some (.int (iI p)), some (.int (iI (tmF g.1 p))), some (.int (iI ((n : Int) + 1)))]) dL_isWell_314 rfl rfl (by decide) rfl rfl ?_
      refine J_goto (tgt := 244) dL_isWell_317 rfl ?_
      refine J_L (L1 := [some (.ref (A 0)), some (.int (iI 1)), some (.int (iI (tmF g.1 0))), some (.int (iI (tmF g.1 1))), some (.int (iI p)), some (.int (iI (tmF g.1 p))), some (.int (iI (((n + 1 : Nat) : Int))))]) (by rw [show (n : Int) + 1 = ((n + 1 : Nat) : Int) by omega]) ?_
      exact J_w (by omega) (by omega) (ih (n + 1) (by omega) S hX)
    have k283 : ∀ S, XT S A g tx L → Jd yL_isWell cL_isWell 7 (some .boolean) 16 260 83000 (kIS 1 (fun T => XT T A g tx L)) (c + 8 * n + 4) (s + 2606 * n + 1303) S 283 [some (.ref (A 0)), some (.int (iI 1)), some (.int (iI (tmF g.1 0))), some (.int (iI (tmF g.1 1))), some (.int (iI p)), some (.int (iI (tmF g.1 p))), some (.int (iI ((n : Int))))] [] := by
      intro S hX
      refine J_iload (pc1 := 285) rfl dL_isWell_283 rfl ?_
      refine J_iconst (pc1 := 286) dL_isWell_285 rfl ?_
      refine J_icmp_gt (pc1 := 289) (tgt := 308) (by omega) (by omega) (by decide) (by decide) dL_isWell_286 rfl rfl (fun hc1 => ?_) (fun hc1 => ?_)
      · exact J_w (by omega) (by omega) (k308 _ hX)
      · refine J_aload_n (pc1 := 290) rfl (i := 0) rfl dL_isWell_289 rfl ?_
        refine J_iload (pc1 := 292) rfl dL_isWell_290 rfl ?_
        refine J_iload (pc1 := 294) rfl dL_isWell_292 rfl ?_
        refine J_mX (pc1 := 297) gv_L_78 yv_X9_ahead hX (m_ah (p := p) (r := (n : Int)) (by omega) (by omega) rfl) dL_isWell_294 rfl rfl rfl (by omega) (by decide) (by omega) (by omega) (Nat.le_of_ble_eq_true rfl) (fun S1 h1 => ?_)
        refine J_aload_n (pc1 := 298) rfl (i := 0) rfl dL_isWell_297 rfl ?_
        refine J_iload (pc1 := 300) rfl dL_isWell_298 rfl ?_
        refine J_iload (pc1 := 302) rfl dL_isWell_300 rfl ?_
        refine J_mX (pc1 := 305) gv_L_75 yv_X9_forced h1 (m_fo (p := p) (r := (n : Int)) (by omega) (by omega) rfl) dL_isWell_302 rfl rfl rfl (by omega) (by decide) (by omega) (by omega) (Nat.le_of_ble_eq_true rfl) (fun S2 h2 => ?_)
        refine J_neS (pc1 := 308) (tgt := 312) dL_isWell_305 rfl rfl (fo_m hp ⟨by omega, by omega⟩ (by omega)) ?_
        exact J_w (by omega) (by omega) (k308 _ h2)
    refine J_iload (pc1 := 246) rfl dL_isWell_244 rfl ?_
    refine J_bipush (pc1 := 248) (by decide) dL_isWell_246 rfl ?_
    refine J_icmp_ge (pc1 := 251) (tgt := 320) (by omega) (by omega) (by decide) (by decide) dL_isWell_248 rfl rfl (fun hc1 => ?_) (fun hc1 => ?_)
    · exact absurd hc1 (by omega)
    · refine J_iload_n (pc1 := 252) rfl (i := 1) rfl dL_isWell_251 rfl ?_
      refine J_if_eq (pc1 := 255) (tgt := 312) (by decide) (by decide) dL_isWell_252 rfl rfl (fun hc2 => ?_) (fun hc2 => ?_)
      · exact absurd hc2 (by decide)
      · refine J_aload_n (pc1 := 256) rfl (i := 0) rfl dL_isWell_255 rfl ?_
        refine J_iload (pc1 := 258) rfl dL_isWell_256 rfl ?_
        refine J_iload (pc1 := 260) rfl dL_isWell_258 rfl ?_
        refine J_mX (pc1 := 263) gv_L_75 yv_X9_forced hX (m_fo (p := p) (r := (n : Int)) (by omega) (by omega) rfl) dL_isWell_260 rfl rfl rfl (by omega) (by decide) (by omega) (by omega) (Nat.le_of_ble_eq_true rfl) (fun S1 h1 => ?_)
        refine J_iload (pc1 := 265) rfl dL_isWell_263 rfl ?_
        refine J_if_lt (pc1 := 268) (tgt := 279) (by omega) (by omega) dL_isWell_265 rfl rfl (fun hc3 => ?_) (fun hc3 => ?_)
        · refine J_iconst (pc1 := 280) dL_isWell_279 rfl ?_
          refine J_neS (pc1 := 283) (tgt := 312) dL_isWell_280 rfl rfl (fo_0 hp ⟨by omega, by omega⟩ (by omega) (by omega)) ?_
          exact J_w (by omega) (by omega) (k283 _ h1)
        · refine J_iload (pc1 := 270) rfl dL_isWell_268 rfl ?_
          refine J_iload (pc1 := 272) rfl dL_isWell_270 rfl ?_
          refine J_icmp_lt (pc1 := 275) (tgt := 279) (by omega) (by omega) (by omega) (by omega) dL_isWell_272 rfl rfl (fun hc4 => ?_) (fun hc4 => ?_)
          · refine J_iconst (pc1 := 280) dL_isWell_279 rfl ?_
            refine J_neS (pc1 := 283) (tgt := 312) dL_isWell_280 rfl rfl (fo_0 hp ⟨by omega, by omega⟩ (by omega) (by omega)) ?_
            exact J_w (by omega) (by omega) (k283 _ h1)
          · refine J_iconst (pc1 := 276) dL_isWell_275 rfl ?_
            refine J_goto (tgt := 280) dL_isWell_276 rfl ?_
            refine J_neS (pc1 := 283) (tgt := 312) dL_isWell_280 rfl rfl (fo_1 hp ⟨by omega, by omega⟩ (by omega) (by omega)) ?_
            exact J_w (by omega) (by omega) (k283 _ h1)
set_option maxHeartbeats 2000000 in
set_option maxRecDepth 20000 in
theorem iw_over0 {A : Nat → Nat} {g : GS} {tx : Int → Int} {L : Nat} (hw : winF g.1 = 0) : ∀ S, XT S A g tx L → Jd yL_isWell cL_isWell 7 (some .boolean) 16 260 83000 (kIS 1 (fun T => XT T A g tx L)) 230 75000 S 326 [some (.ref (A 0)), some (.int (iI 1)), some (.int (iI (tmF g.1 0))), some (.int (iI (tmF g.1 1))), some (.int (iI 2)), some (.int (iI (tmF g.1 1))), some (.int (iI ((9 : Nat) : Int)))] [] := by
  intro S hX
  have ok := hX.2.1.1
  have ht0 := tm_b g.1 0
  have ht1 := tm_b g.1 1
  refine J_aload_n (pc1 := 327) rfl (i := 0) rfl dL_isWell_326 rfl ?_
  refine J_iconst (pc1 := 328) dL_isWell_327 rfl ?_
  refine J_mX (pc1 := 331) gv_L_23 yv_X9_count hX (m_cn (w := 5) (z := (-1006)) (by decide) (cz5x (by rw [hw]; decide))) dL_isWell_328 rfl rfl rfl (by omega) (by decide) (by omega) (by omega) (Nat.le_of_ble_eq_true rfl) (fun S1 h1 => ?_)
  refine J_istore (pc1 := 333) (L1 := [some (.ref (A 0)), some (.int (iI 1)), some (.int (iI (tmF g.1 0))), some (.int (iI (tmF g.1 1))), some (.int (iI (-1006))), some (.int (iI (tmF g.1 1))), some (.int (iI ((9 : Nat) : Int)))]) dL_isWell_331 rfl (by decide) rfl rfl ?_
  refine J_iload (pc1 := 335) rfl dL_isWell_333 rfl ?_
  refine J_if_ge (pc1 := 338) (tgt := 363) (by decide) (by decide) dL_isWell_335 rfl rfl (fun hc1 => ?_) (fun hc1 => ?_)
  · exact absurd hc1 (by decide)
  · refine J_iload_n (pc1 := 339) rfl (i := 1) rfl dL_isWell_338 rfl ?_
    refine J_if_eq (pc1 := 342) (tgt := 361) (by decide) (by decide) dL_isWell_339 rfl rfl (fun hc2 => ?_) (fun hc2 => ?_)
    · exact absurd hc2 (by decide)
    · refine J_aload_n (pc1 := 343) rfl (i := 0) rfl dL_isWell_342 rfl ?_
      refine J_aload_n (pc1 := 344) rfl (i := 0) rfl dL_isWell_343 rfl ?_
      refine J_bipush (pc1 := 346) (by decide) dL_isWell_344 rfl ?_
      refine J_mX (pc1 := 349) gv_L_23 yv_X9_count h1 (m_cn (w := 7) (z := 0) (by decide) (cz7.trans hw)) dL_isWell_346 rfl rfl rfl (by omega) (by decide) (by omega) (by omega) (Nat.le_of_ble_eq_true rfl) (fun S2 h2 => ?_)
      refine J_bipush (pc1 := 351) (by decide) dL_isWell_349 rfl ?_
      refine J_mX (pc1 := 354) gv_L_37 yv_X9_player h2 (m_pl (p := 0) (w := 6) (z := 0) (Or.inl rfl) (by decide) ((pz6 (Or.inl rfl)).trans (tm_won (Or.inl rfl) hw))) dL_isWell_351 rfl rfl rfl (by omega) (by decide) (by omega) (by omega) (Nat.le_of_ble_eq_true rfl) (fun S3 h3 => ?_)
      refine J_if_ne (pc1 := 357) (tgt := 361) (by decide) (by decide) dL_isWell_354 rfl rfl (fun hc3 => ?_) (fun hc3 => ?_)
      · exact absurd hc3 (by decide)
      · refine J_iconst (pc1 := 358) dL_isWell_357 rfl ?_
        refine J_goto (tgt := 362) dL_isWell_358 rfl ?_
        exact J_iret rfl rfl dL_isWell_362 (by omega) (by omega) (kIS_mk rfl h3)
set_option maxHeartbeats 2000000 in
set_option maxRecDepth 20000 in
theorem iw_over1 {A : Nat → Nat} {g : GS} {tx : Int → Int} {L : Nat} (hw : winF g.1 = 1) : ∀ S, XT S A g tx L → Jd yL_isWell cL_isWell 7 (some .boolean) 16 260 83000 (kIS 1 (fun T => XT T A g tx L)) 230 75000 S 326 [some (.ref (A 0)), some (.int (iI 1)), some (.int (iI (tmF g.1 0))), some (.int (iI (tmF g.1 1))), some (.int (iI 2)), some (.int (iI (tmF g.1 1))), some (.int (iI ((9 : Nat) : Int)))] [] := by
  intro S hX
  have ok := hX.2.1.1
  have ht0 := tm_b g.1 0
  have ht1 := tm_b g.1 1
  refine J_aload_n (pc1 := 327) rfl (i := 0) rfl dL_isWell_326 rfl ?_
  refine J_iconst (pc1 := 328) dL_isWell_327 rfl ?_
  refine J_mX (pc1 := 331) gv_L_23 yv_X9_count hX (m_cn (w := 5) (z := (-1006)) (by decide) (cz5x (by rw [hw]; decide))) dL_isWell_328 rfl rfl rfl (by omega) (by decide) (by omega) (by omega) (Nat.le_of_ble_eq_true rfl) (fun S1 h1 => ?_)
  refine J_istore (pc1 := 333) (L1 := [some (.ref (A 0)), some (.int (iI 1)), some (.int (iI (tmF g.1 0))), some (.int (iI (tmF g.1 1))), some (.int (iI (-1006))), some (.int (iI (tmF g.1 1))), some (.int (iI ((9 : Nat) : Int)))]) dL_isWell_331 rfl (by decide) rfl rfl ?_
  refine J_iload (pc1 := 335) rfl dL_isWell_333 rfl ?_
  refine J_if_ge (pc1 := 338) (tgt := 363) (by decide) (by decide) dL_isWell_335 rfl rfl (fun hc1 => ?_) (fun hc1 => ?_)
  · exact absurd hc1 (by decide)
  · refine J_iload_n (pc1 := 339) rfl (i := 1) rfl dL_isWell_338 rfl ?_
    refine J_if_eq (pc1 := 342) (tgt := 361) (by decide) (by decide) dL_isWell_339 rfl rfl (fun hc2 => ?_) (fun hc2 => ?_)
    · exact absurd hc2 (by decide)
    · refine J_aload_n (pc1 := 343) rfl (i := 0) rfl dL_isWell_342 rfl ?_
      refine J_aload_n (pc1 := 344) rfl (i := 0) rfl dL_isWell_343 rfl ?_
      refine J_bipush (pc1 := 346) (by decide) dL_isWell_344 rfl ?_
      refine J_mX (pc1 := 349) gv_L_23 yv_X9_count h1 (m_cn (w := 7) (z := 1) (by decide) (cz7.trans hw)) dL_isWell_346 rfl rfl rfl (by omega) (by decide) (by omega) (by omega) (Nat.le_of_ble_eq_true rfl) (fun S2 h2 => ?_)
      refine J_bipush (pc1 := 351) (by decide) dL_isWell_349 rfl ?_
      refine J_mX (pc1 := 354) gv_L_37 yv_X9_player h2 (m_pl (p := 1) (w := 6) (z := 0) (Or.inr rfl) (by decide) ((pz6 (Or.inr rfl)).trans (tm_won (Or.inr rfl) hw))) dL_isWell_351 rfl rfl rfl (by omega) (by decide) (by omega) (by omega) (Nat.le_of_ble_eq_true rfl) (fun S3 h3 => ?_)
      refine J_if_ne (pc1 := 357) (tgt := 361) (by decide) (by decide) dL_isWell_354 rfl rfl (fun hc3 => ?_) (fun hc3 => ?_)
      · exact absurd hc3 (by decide)
      · refine J_iconst (pc1 := 358) dL_isWell_357 rfl ?_
        refine J_goto (tgt := 362) dL_isWell_358 rfl ?_
        exact J_iret rfl rfl dL_isWell_362 (by omega) (by omega) (kIS_mk rfl h3)
set_option maxHeartbeats 2000000 in
set_option maxRecDepth 20000 in
theorem iw_on0 {A : Nat → Nat} {g : GS} {tx : Int → Int} {L : Nat} (hw : winF g.1 = -1006) (h5 : g.1 5 = 0) : ∀ S, XT S A g tx L → Jd yL_isWell cL_isWell 7 (some .boolean) 16 260 83000 (kIS 1 (fun T => XT T A g tx L)) 230 75000 S 326 [some (.ref (A 0)), some (.int (iI 1)), some (.int (iI (tmF g.1 0))), some (.int (iI (tmF g.1 1))), some (.int (iI 2)), some (.int (iI (tmF g.1 1))), some (.int (iI ((9 : Nat) : Int)))] [] := by
  intro S hX
  have ok := hX.2.1.1
  have ht0 := tm_b g.1 0
  have ht1 := tm_b g.1 1
  have hck := ck_b ok
  have hcp := tm_ck ok hw
  rw [h5] at hck hcp
  have hm : moF g.1 0 = g.1 7 + g.1 1 := rfl
  rw [hm] at hck
  have hcp1 := hcp.mp
  have hcp2 := hcp.mpr
  have hfb := fbF_b ok
  rw [h5, hm] at hfb
  have hmo := moF_b (p := 0) ok
  rw [hm] at hmo
  refine J_aload_n (pc1 := 327) rfl (i := 0) rfl dL_isWell_326 rfl ?_
  refine J_iconst (pc1 := 328) dL_isWell_327 rfl ?_
  refine J_mX (pc1 := 331) gv_L_23 yv_X9_count hX (m_cn (w := 5) (z := 0) (by decide) ((cz5 hw).trans h5)) dL_isWell_328 rfl rfl rfl (by omega) (by decide) (by omega) (by omega) (Nat.le_of_ble_eq_true rfl) (fun S1 h1 => ?_)
  refine J_istore (pc1 := 333) (L1 := [some (.ref (A 0)), some (.int (iI 1)), some (.int (iI (tmF g.1 0))), some (.int (iI (tmF g.1 1))), some (.int (iI 0)), some (.int (iI (tmF g.1 1))), some (.int (iI ((9 : Nat) : Int)))]) dL_isWell_331 rfl (by decide) rfl rfl ?_
  refine J_iload (pc1 := 335) rfl dL_isWell_333 rfl ?_
  refine J_if_ge (pc1 := 338) (tgt := 363) (by decide) (by decide) dL_isWell_335 rfl rfl (fun hc1 => ?_) (fun hc1 => ?_)
  · refine J_aload_n (pc1 := 364) rfl (i := 0) rfl dL_isWell_363 rfl ?_
    refine J_mX (pc1 := 367) gv_L_81 yv_X9_keeps h1 (m_ck (z := ckF g.1) (if_neg (fun z => z hw))) dL_isWell_364 rfl rfl rfl (by omega) (by decide) (by omega) (by omega) (Nat.le_of_ble_eq_true rfl) (fun S2 h2 => ?_)
    refine J_istore (pc1 := 369) (L1 := [some (.ref (A 0)), some (.int (iI 1)), some (.int (iI (tmF g.1 0))), some (.int (iI (tmF g.1 1))), some (.int (iI 0)), some (.int (iI (ckF g.1))), some (.int (iI ((9 : Nat) : Int)))]) dL_isWell_367 rfl (by decide) rfl rfl ?_
    refine J_aload_n (pc1 := 370) rfl (i := 0) rfl dL_isWell_369 rfl ?_
    refine J_iload (pc1 := 372) rfl dL_isWell_370 rfl ?_
    refine J_bipush (pc1 := 374) (by decide) dL_isWell_372 rfl ?_
    refine J_mX (pc1 := 377) gv_L_37 yv_X9_player h2 (m_pl (p := 0) (w := 6) (z := tmF g.1 0) (Or.inl rfl) (by decide) (rfl)) dL_isWell_374 rfl rfl rfl (by omega) (by decide) (by omega) (by omega) (Nat.le_of_ble_eq_true rfl) (fun S3 h3 => ?_)
    refine J_istore (pc1 := 379) (L1 := [some (.ref (A 0)), some (.int (iI 1)), some (.int (iI (tmF g.1 0))), some (.int (iI (tmF g.1 1))), some (.int (iI 0)), some (.int (iI (ckF g.1))), some (.int (iI (tmF g.1 0)))]) dL_isWell_377 rfl (by decide) rfl rfl ?_
    refine J_iload_n (pc1 := 380) rfl (i := 1) rfl dL_isWell_379 rfl ?_
    refine J_if_eq (pc1 := 383) (tgt := 458) (by decide) (by decide) dL_isWell_380 rfl rfl (fun hc2 => ?_) (fun hc2 => ?_)
    · exact absurd hc2 (by decide)
    · refine J_iload (pc1 := 385) rfl dL_isWell_383 rfl ?_
      refine J_if_le (pc1 := 388) (tgt := 392) (by omega) (by omega) dL_isWell_385 rfl rfl (fun hc3 => ?_) (fun hc3 => ?_)
      · refine J_iconst (pc1 := 393) dL_isWell_392 rfl ?_
        refine J_iload (pc1 := 395) rfl dL_isWell_393 rfl ?_
        refine J_if_lt (pc1 := 398) (tgt := 402) (by omega) (by omega) dL_isWell_395 rfl rfl (fun hc4 => ?_) (fun hc4 => ?_)
        · refine J_iconst (pc1 := 403) dL_isWell_402 rfl ?_
          refine J_icmp_ne (pc1 := 406) (tgt := 458) (by decide) (by decide) (by decide) (by decide) dL_isWell_403 rfl rfl (fun hc5 => ?_) (fun hc5 => ?_)
          · exact absurd hc5 (by decide)
          · refine J_iload (pc1 := 408) rfl dL_isWell_406 rfl ?_
            refine J_aload_n (pc1 := 409) rfl (i := 0) rfl dL_isWell_408 rfl ?_
            refine J_iload (pc1 := 411) rfl dL_isWell_409 rfl ?_
            refine J_iconst (pc1 := 412) dL_isWell_411 rfl ?_
            refine J_mX (pc1 := 415) gv_L_37 yv_X9_player h3 (m_pl (p := 0) (w := 1) (z := g.1 7 + g.1 1) (Or.inl rfl) (by decide) (rfl)) dL_isWell_412 rfl rfl rfl (by omega) (by decide) (by omega) (by omega) (Nat.le_of_ble_eq_true rfl) (fun S4 h4 => ?_)
            refine J_iconst (pc1 := 416) dL_isWell_415 rfl ?_
            refine J_iadd (pc1 := 417) dL_isWell_416 rfl ?_
            refine J_icmp_gt (pc1 := 420) (tgt := 458) (by omega) (by omega) (by omega) (by omega) dL_isWell_417 rfl rfl (fun hc6 => ?_) (fun hc6 => ?_)
            · exact absurd hc6 (by omega)
            · refine J_aload_n (pc1 := 421) rfl (i := 0) rfl dL_isWell_420 rfl ?_
              refine J_mX (pc1 := 424) gv_L_84 yv_X9_bestBid h4 (m_bb (z := fbF g.1) (if_neg (fun z => z hw))) dL_isWell_421 rfl rfl rfl (by omega) (by decide) (by omega) (by omega) (Nat.le_of_ble_eq_true rfl) (fun S5 h5 => ?_)
              refine J_if_lt (pc1 := 427) (tgt := 458) (by omega) (by omega) dL_isWell_424 rfl rfl (fun hc7 => ?_) (fun hc7 => ?_)
              · exact absurd hc7 (by omega)
              · refine J_aload_n (pc1 := 428) rfl (i := 0) rfl dL_isWell_427 rfl ?_
                refine J_mX (pc1 := 431) gv_L_84 yv_X9_bestBid h5 (m_bb (z := fbF g.1) (if_neg (fun z => z hw))) dL_isWell_428 rfl rfl rfl (by omega) (by decide) (by omega) (by omega) (Nat.le_of_ble_eq_true rfl) (fun S6 h6 => ?_)
                refine J_aload_n (pc1 := 432) rfl (i := 0) rfl dL_isWell_431 rfl ?_
                refine J_iload (pc1 := 434) rfl dL_isWell_432 rfl ?_
                refine J_iconst (pc1 := 435) dL_isWell_434 rfl ?_
                refine J_mX (pc1 := 438) gv_L_37 yv_X9_player h6 (m_pl (p := 0) (w := 1) (z := g.1 7 + g.1 1) (Or.inl rfl) (by decide) (rfl)) dL_isWell_435 rfl rfl rfl (by omega) (by decide) (by omega) (by omega) (Nat.le_of_ble_eq_true rfl) (fun S7 h7 => ?_)
                refine J_icmp_gt (pc1 := 441) (tgt := 458) (by omega) (by omega) (by omega) (by omega) dL_isWell_438 rfl rfl (fun hc8 => ?_) (fun hc8 => ?_)
                · exact absurd hc8 (by omega)
                · refine J_iload (pc1 := 443) rfl dL_isWell_441 rfl ?_
                  refine J_if_ne (pc1 := 446) (tgt := 450) (by decide) (by decide) dL_isWell_443 rfl rfl (fun hc9 => ?_) (fun hc9 => ?_)
                  · exact absurd hc9 (by decide)
                  · refine J_iload_n (pc1 := 447) rfl (i := 2) rfl dL_isWell_446 rfl ?_
                    refine J_goto (tgt := 451) dL_isWell_447 rfl ?_
                    refine J_if_eq (pc1 := 454) (tgt := 458) (by omega) (by omega) dL_isWell_451 rfl rfl (fun hc10 => ?_) (fun hc10 => ?_)
                    · exact absurd hc10 (tm_n0 hw (Or.inl rfl))
                    · refine J_iconst (pc1 := 455) dL_isWell_454 rfl ?_
                      refine J_goto (tgt := 459) dL_isWell_455 rfl ?_
                      exact J_iret rfl rfl dL_isWell_459 (by omega) (by omega) (kIS_mk rfl h7)
        · exact absurd (show tmF g.1 0 < 0 by omega) hc4
      · refine J_iconst (pc1 := 389) dL_isWell_388 rfl ?_
        refine J_goto (tgt := 393) dL_isWell_389 rfl ?_
        refine J_iload (pc1 := 395) rfl dL_isWell_393 rfl ?_
        refine J_if_lt (pc1 := 398) (tgt := 402) (by omega) (by omega) dL_isWell_395 rfl rfl (fun hc11 => ?_) (fun hc11 => ?_)
        · exact absurd hc11 (by omega)
        · refine J_iconst (pc1 := 399) dL_isWell_398 rfl ?_
          refine J_goto (tgt := 403) dL_isWell_399 rfl ?_
          refine J_icmp_ne (pc1 := 406) (tgt := 458) (by decide) (by decide) (by decide) (by decide) dL_isWell_403 rfl rfl (fun hc12 => ?_) (fun hc12 => ?_)
          · exact absurd hc12 (by decide)
          · refine J_iload (pc1 := 408) rfl dL_isWell_406 rfl ?_
            refine J_aload_n (pc1 := 409) rfl (i := 0) rfl dL_isWell_408 rfl ?_
            refine J_iload (pc1 := 411) rfl dL_isWell_409 rfl ?_
            refine J_iconst (pc1 := 412) dL_isWell_411 rfl ?_
            refine J_mX (pc1 := 415) gv_L_37 yv_X9_player h3 (m_pl (p := 0) (w := 1) (z := g.1 7 + g.1 1) (Or.inl rfl) (by decide) (rfl)) dL_isWell_412 rfl rfl rfl (by omega) (by decide) (by omega) (by omega) (Nat.le_of_ble_eq_true rfl) (fun S8 h8 => ?_)
            refine J_iconst (pc1 := 416) dL_isWell_415 rfl ?_
            refine J_iadd (pc1 := 417) dL_isWell_416 rfl ?_
            refine J_icmp_gt (pc1 := 420) (tgt := 458) (by omega) (by omega) (by omega) (by omega) dL_isWell_417 rfl rfl (fun hc13 => ?_) (fun hc13 => ?_)
            · exact absurd hc13 (by omega)
            · refine J_aload_n (pc1 := 421) rfl (i := 0) rfl dL_isWell_420 rfl ?_
              refine J_mX (pc1 := 424) gv_L_84 yv_X9_bestBid h8 (m_bb (z := fbF g.1) (if_neg (fun z => z hw))) dL_isWell_421 rfl rfl rfl (by omega) (by decide) (by omega) (by omega) (Nat.le_of_ble_eq_true rfl) (fun S9 h9 => ?_)
              refine J_if_lt (pc1 := 427) (tgt := 458) (by omega) (by omega) dL_isWell_424 rfl rfl (fun hc14 => ?_) (fun hc14 => ?_)
              · exact absurd hc14 (by omega)
              · refine J_aload_n (pc1 := 428) rfl (i := 0) rfl dL_isWell_427 rfl ?_
                refine J_mX (pc1 := 431) gv_L_84 yv_X9_bestBid h9 (m_bb (z := fbF g.1) (if_neg (fun z => z hw))) dL_isWell_428 rfl rfl rfl (by omega) (by decide) (by omega) (by omega) (Nat.le_of_ble_eq_true rfl) (fun S10 h10 => ?_)
                refine J_aload_n (pc1 := 432) rfl (i := 0) rfl dL_isWell_431 rfl ?_
                refine J_iload (pc1 := 434) rfl dL_isWell_432 rfl ?_
                refine J_iconst (pc1 := 435) dL_isWell_434 rfl ?_
                refine J_mX (pc1 := 438) gv_L_37 yv_X9_player h10 (m_pl (p := 0) (w := 1) (z := g.1 7 + g.1 1) (Or.inl rfl) (by decide) (rfl)) dL_isWell_435 rfl rfl rfl (by omega) (by decide) (by omega) (by omega) (Nat.le_of_ble_eq_true rfl) (fun S11 h11 => ?_)
                refine J_icmp_gt (pc1 := 441) (tgt := 458) (by omega) (by omega) (by omega) (by omega) dL_isWell_438 rfl rfl (fun hc15 => ?_) (fun hc15 => ?_)
                · exact absurd hc15 (by omega)
                · refine J_iload (pc1 := 443) rfl dL_isWell_441 rfl ?_
                  refine J_if_ne (pc1 := 446) (tgt := 450) (by decide) (by decide) dL_isWell_443 rfl rfl (fun hc16 => ?_) (fun hc16 => ?_)
                  · exact absurd hc16 (by decide)
                  · refine J_iload_n (pc1 := 447) rfl (i := 2) rfl dL_isWell_446 rfl ?_
                    refine J_goto (tgt := 451) dL_isWell_447 rfl ?_
                    refine J_if_eq (pc1 := 454) (tgt := 458) (by omega) (by omega) dL_isWell_451 rfl rfl (fun hc17 => ?_) (fun hc17 => ?_)
                    · exact absurd hc17 (tm_n0 hw (Or.inl rfl))
                    · refine J_iconst (pc1 := 455) dL_isWell_454 rfl ?_
                      refine J_goto (tgt := 459) dL_isWell_455 rfl ?_
                      exact J_iret rfl rfl dL_isWell_459 (by omega) (by omega) (kIS_mk rfl h11)
  · exact absurd hc1 (by decide)
set_option maxHeartbeats 2000000 in
set_option maxRecDepth 20000 in
theorem iw_on1 {A : Nat → Nat} {g : GS} {tx : Int → Int} {L : Nat} (hw : winF g.1 = -1006) (h5 : g.1 5 = 1) : ∀ S, XT S A g tx L → Jd yL_isWell cL_isWell 7 (some .boolean) 16 260 83000 (kIS 1 (fun T => XT T A g tx L)) 230 75000 S 326 [some (.ref (A 0)), some (.int (iI 1)), some (.int (iI (tmF g.1 0))), some (.int (iI (tmF g.1 1))), some (.int (iI 2)), some (.int (iI (tmF g.1 1))), some (.int (iI ((9 : Nat) : Int)))] [] := by
  intro S hX
  have ok := hX.2.1.1
  have ht0 := tm_b g.1 0
  have ht1 := tm_b g.1 1
  have hck := ck_b ok
  have hcp := tm_ck ok hw
  rw [h5] at hck hcp
  have hm : moF g.1 1 = g.1 8 + g.1 1 := rfl
  rw [hm] at hck
  have hcp1 := hcp.mp
  have hcp2 := hcp.mpr
  have hfb := fbF_b ok
  rw [h5, hm] at hfb
  have hmo := moF_b (p := 1) ok
  rw [hm] at hmo
  refine J_aload_n (pc1 := 327) rfl (i := 0) rfl dL_isWell_326 rfl ?_
  refine J_iconst (pc1 := 328) dL_isWell_327 rfl ?_
  refine J_mX (pc1 := 331) gv_L_23 yv_X9_count hX (m_cn (w := 5) (z := 1) (by decide) ((cz5 hw).trans h5)) dL_isWell_328 rfl rfl rfl (by omega) (by decide) (by omega) (by omega) (Nat.le_of_ble_eq_true rfl) (fun S1 h1 => ?_)
  refine J_istore (pc1 := 333) (L1 := [some (.ref (A 0)), some (.int (iI 1)), some (.int (iI (tmF g.1 0))), some (.int (iI (tmF g.1 1))), some (.int (iI 1)), some (.int (iI (tmF g.1 1))), some (.int (iI ((9 : Nat) : Int)))]) dL_isWell_331 rfl (by decide) rfl rfl ?_
  refine J_iload (pc1 := 335) rfl dL_isWell_333 rfl ?_
  refine J_if_ge (pc1 := 338) (tgt := 363) (by decide) (by decide) dL_isWell_335 rfl rfl (fun hc1 => ?_) (fun hc1 => ?_)
  · refine J_aload_n (pc1 := 364) rfl (i := 0) rfl dL_isWell_363 rfl ?_
    refine J_mX (pc1 := 367) gv_L_81 yv_X9_keeps h1 (m_ck (z := ckF g.1) (if_neg (fun z => z hw))) dL_isWell_364 rfl rfl rfl (by omega) (by decide) (by omega) (by omega) (Nat.le_of_ble_eq_true rfl) (fun S2 h2 => ?_)
    refine J_istore (pc1 := 369) (L1 := [some (.ref (A 0)), some (.int (iI 1)), some (.int (iI (tmF g.1 0))), some (.int (iI (tmF g.1 1))), some (.int (iI 1)), some (.int (iI (ckF g.1))), some (.int (iI ((9 : Nat) : Int)))]) dL_isWell_367 rfl (by decide) rfl rfl ?_
    refine J_aload_n (pc1 := 370) rfl (i := 0) rfl dL_isWell_369 rfl ?_
    refine J_iload (pc1 := 372) rfl dL_isWell_370 rfl ?_
    refine J_bipush (pc1 := 374) (by decide) dL_isWell_372 rfl ?_
    refine J_mX (pc1 := 377) gv_L_37 yv_X9_player h2 (m_pl (p := 1) (w := 6) (z := tmF g.1 1) (Or.inr rfl) (by decide) (rfl)) dL_isWell_374 rfl rfl rfl (by omega) (by decide) (by omega) (by omega) (Nat.le_of_ble_eq_true rfl) (fun S3 h3 => ?_)
    refine J_istore (pc1 := 379) (L1 := [some (.ref (A 0)), some (.int (iI 1)), some (.int (iI (tmF g.1 0))), some (.int (iI (tmF g.1 1))), some (.int (iI 1)), some (.int (iI (ckF g.1))), some (.int (iI (tmF g.1 1)))]) dL_isWell_377 rfl (by decide) rfl rfl ?_
    refine J_iload_n (pc1 := 380) rfl (i := 1) rfl dL_isWell_379 rfl ?_
    refine J_if_eq (pc1 := 383) (tgt := 458) (by decide) (by decide) dL_isWell_380 rfl rfl (fun hc2 => ?_) (fun hc2 => ?_)
    · exact absurd hc2 (by decide)
    · refine J_iload (pc1 := 385) rfl dL_isWell_383 rfl ?_
      refine J_if_le (pc1 := 388) (tgt := 392) (by omega) (by omega) dL_isWell_385 rfl rfl (fun hc3 => ?_) (fun hc3 => ?_)
      · refine J_iconst (pc1 := 393) dL_isWell_392 rfl ?_
        refine J_iload (pc1 := 395) rfl dL_isWell_393 rfl ?_
        refine J_if_lt (pc1 := 398) (tgt := 402) (by omega) (by omega) dL_isWell_395 rfl rfl (fun hc4 => ?_) (fun hc4 => ?_)
        · refine J_iconst (pc1 := 403) dL_isWell_402 rfl ?_
          refine J_icmp_ne (pc1 := 406) (tgt := 458) (by decide) (by decide) (by decide) (by decide) dL_isWell_403 rfl rfl (fun hc5 => ?_) (fun hc5 => ?_)
          · exact absurd hc5 (by decide)
          · refine J_iload (pc1 := 408) rfl dL_isWell_406 rfl ?_
            refine J_aload_n (pc1 := 409) rfl (i := 0) rfl dL_isWell_408 rfl ?_
            refine J_iload (pc1 := 411) rfl dL_isWell_409 rfl ?_
            refine J_iconst (pc1 := 412) dL_isWell_411 rfl ?_
            refine J_mX (pc1 := 415) gv_L_37 yv_X9_player h3 (m_pl (p := 1) (w := 1) (z := g.1 8 + g.1 1) (Or.inr rfl) (by decide) (rfl)) dL_isWell_412 rfl rfl rfl (by omega) (by decide) (by omega) (by omega) (Nat.le_of_ble_eq_true rfl) (fun S4 h4 => ?_)
            refine J_iconst (pc1 := 416) dL_isWell_415 rfl ?_
            refine J_iadd (pc1 := 417) dL_isWell_416 rfl ?_
            refine J_icmp_gt (pc1 := 420) (tgt := 458) (by omega) (by omega) (by omega) (by omega) dL_isWell_417 rfl rfl (fun hc6 => ?_) (fun hc6 => ?_)
            · exact absurd hc6 (by omega)
            · refine J_aload_n (pc1 := 421) rfl (i := 0) rfl dL_isWell_420 rfl ?_
              refine J_mX (pc1 := 424) gv_L_84 yv_X9_bestBid h4 (m_bb (z := fbF g.1) (if_neg (fun z => z hw))) dL_isWell_421 rfl rfl rfl (by omega) (by decide) (by omega) (by omega) (Nat.le_of_ble_eq_true rfl) (fun S5 h5 => ?_)
              refine J_if_lt (pc1 := 427) (tgt := 458) (by omega) (by omega) dL_isWell_424 rfl rfl (fun hc7 => ?_) (fun hc7 => ?_)
              · exact absurd hc7 (by omega)
              · refine J_aload_n (pc1 := 428) rfl (i := 0) rfl dL_isWell_427 rfl ?_
                refine J_mX (pc1 := 431) gv_L_84 yv_X9_bestBid h5 (m_bb (z := fbF g.1) (if_neg (fun z => z hw))) dL_isWell_428 rfl rfl rfl (by omega) (by decide) (by omega) (by omega) (Nat.le_of_ble_eq_true rfl) (fun S6 h6 => ?_)
                refine J_aload_n (pc1 := 432) rfl (i := 0) rfl dL_isWell_431 rfl ?_
                refine J_iload (pc1 := 434) rfl dL_isWell_432 rfl ?_
                refine J_iconst (pc1 := 435) dL_isWell_434 rfl ?_
                refine J_mX (pc1 := 438) gv_L_37 yv_X9_player h6 (m_pl (p := 1) (w := 1) (z := g.1 8 + g.1 1) (Or.inr rfl) (by decide) (rfl)) dL_isWell_435 rfl rfl rfl (by omega) (by decide) (by omega) (by omega) (Nat.le_of_ble_eq_true rfl) (fun S7 h7 => ?_)
                refine J_icmp_gt (pc1 := 441) (tgt := 458) (by omega) (by omega) (by omega) (by omega) dL_isWell_438 rfl rfl (fun hc8 => ?_) (fun hc8 => ?_)
                · exact absurd hc8 (by omega)
                · refine J_iload (pc1 := 443) rfl dL_isWell_441 rfl ?_
                  refine J_if_ne (pc1 := 446) (tgt := 450) (by decide) (by decide) dL_isWell_443 rfl rfl (fun hc9 => ?_) (fun hc9 => ?_)
                  · refine J_iload_n (pc1 := 451) rfl (i := 3) rfl dL_isWell_450 rfl ?_
                    refine J_if_eq (pc1 := 454) (tgt := 458) (by omega) (by omega) dL_isWell_451 rfl rfl (fun hc10 => ?_) (fun hc10 => ?_)
                    · exact absurd hc10 (tm_n0 hw (Or.inr rfl))
                    · refine J_iconst (pc1 := 455) dL_isWell_454 rfl ?_
                      refine J_goto (tgt := 459) dL_isWell_455 rfl ?_
                      exact J_iret rfl rfl dL_isWell_459 (by omega) (by omega) (kIS_mk rfl h7)
                  · exact absurd hc9 (by decide)
        · exact absurd (show tmF g.1 1 < 0 by omega) hc4
      · refine J_iconst (pc1 := 389) dL_isWell_388 rfl ?_
        refine J_goto (tgt := 393) dL_isWell_389 rfl ?_
        refine J_iload (pc1 := 395) rfl dL_isWell_393 rfl ?_
        refine J_if_lt (pc1 := 398) (tgt := 402) (by omega) (by omega) dL_isWell_395 rfl rfl (fun hc11 => ?_) (fun hc11 => ?_)
        · exact absurd hc11 (by omega)
        · refine J_iconst (pc1 := 399) dL_isWell_398 rfl ?_
          refine J_goto (tgt := 403) dL_isWell_399 rfl ?_
          refine J_icmp_ne (pc1 := 406) (tgt := 458) (by decide) (by decide) (by decide) (by decide) dL_isWell_403 rfl rfl (fun hc12 => ?_) (fun hc12 => ?_)
          · exact absurd hc12 (by decide)
          · refine J_iload (pc1 := 408) rfl dL_isWell_406 rfl ?_
            refine J_aload_n (pc1 := 409) rfl (i := 0) rfl dL_isWell_408 rfl ?_
            refine J_iload (pc1 := 411) rfl dL_isWell_409 rfl ?_
            refine J_iconst (pc1 := 412) dL_isWell_411 rfl ?_
            refine J_mX (pc1 := 415) gv_L_37 yv_X9_player h3 (m_pl (p := 1) (w := 1) (z := g.1 8 + g.1 1) (Or.inr rfl) (by decide) (rfl)) dL_isWell_412 rfl rfl rfl (by omega) (by decide) (by omega) (by omega) (Nat.le_of_ble_eq_true rfl) (fun S8 h8 => ?_)
            refine J_iconst (pc1 := 416) dL_isWell_415 rfl ?_
            refine J_iadd (pc1 := 417) dL_isWell_416 rfl ?_
            refine J_icmp_gt (pc1 := 420) (tgt := 458) (by omega) (by omega) (by omega) (by omega) dL_isWell_417 rfl rfl (fun hc13 => ?_) (fun hc13 => ?_)
            · exact absurd hc13 (by omega)
            · refine J_aload_n (pc1 := 421) rfl (i := 0) rfl dL_isWell_420 rfl ?_
              refine J_mX (pc1 := 424) gv_L_84 yv_X9_bestBid h8 (m_bb (z := fbF g.1) (if_neg (fun z => z hw))) dL_isWell_421 rfl rfl rfl (by omega) (by decide) (by omega) (by omega) (Nat.le_of_ble_eq_true rfl) (fun S9 h9 => ?_)
              refine J_if_lt (pc1 := 427) (tgt := 458) (by omega) (by omega) dL_isWell_424 rfl rfl (fun hc14 => ?_) (fun hc14 => ?_)
              · exact absurd hc14 (by omega)
              · refine J_aload_n (pc1 := 428) rfl (i := 0) rfl dL_isWell_427 rfl ?_
                refine J_mX (pc1 := 431) gv_L_84 yv_X9_bestBid h9 (m_bb (z := fbF g.1) (if_neg (fun z => z hw))) dL_isWell_428 rfl rfl rfl (by omega) (by decide) (by omega) (by omega) (Nat.le_of_ble_eq_true rfl) (fun S10 h10 => ?_)
                refine J_aload_n (pc1 := 432) rfl (i := 0) rfl dL_isWell_431 rfl ?_
                refine J_iload (pc1 := 434) rfl dL_isWell_432 rfl ?_
                refine J_iconst (pc1 := 435) dL_isWell_434 rfl ?_
                refine J_mX (pc1 := 438) gv_L_37 yv_X9_player h10 (m_pl (p := 1) (w := 1) (z := g.1 8 + g.1 1) (Or.inr rfl) (by decide) (rfl)) dL_isWell_435 rfl rfl rfl (by omega) (by decide) (by omega) (by omega) (Nat.le_of_ble_eq_true rfl) (fun S11 h11 => ?_)
                refine J_icmp_gt (pc1 := 441) (tgt := 458) (by omega) (by omega) (by omega) (by omega) dL_isWell_438 rfl rfl (fun hc15 => ?_) (fun hc15 => ?_)
                · exact absurd hc15 (by omega)
                · refine J_iload (pc1 := 443) rfl dL_isWell_441 rfl ?_
                  refine J_if_ne (pc1 := 446) (tgt := 450) (by decide) (by decide) dL_isWell_443 rfl rfl (fun hc16 => ?_) (fun hc16 => ?_)
                  · refine J_iload_n (pc1 := 451) rfl (i := 3) rfl dL_isWell_450 rfl ?_
                    refine J_if_eq (pc1 := 454) (tgt := 458) (by omega) (by omega) dL_isWell_451 rfl rfl (fun hc17 => ?_) (fun hc17 => ?_)
                    · exact absurd hc17 (tm_n0 hw (Or.inr rfl))
                    · refine J_iconst (pc1 := 455) dL_isWell_454 rfl ?_
                      refine J_goto (tgt := 459) dL_isWell_455 rfl ?_
                      exact J_iret rfl rfl dL_isWell_459 (by omega) (by omega) (kIS_mk rfl h11)
                  · exact absurd hc16 (by decide)
  · exact absurd hc1 (by decide)
set_option maxHeartbeats 400000 in
set_option maxRecDepth 20000 in
theorem iw_326 {A : Nat → Nat} {g : GS} {tx : Int → Int} {L : Nat} : ∀ S, XT S A g tx L → Jd yL_isWell cL_isWell 7 (some .boolean) 16 260 83000 (kIS 1 (fun T => XT T A g tx L)) 230 75000 S 326 [some (.ref (A 0)), some (.int (iI 1)), some (.int (iI (tmF g.1 0))), some (.int (iI (tmF g.1 1))), some (.int (iI 2)), some (.int (iI (tmF g.1 1))), some (.int (iI ((9 : Nat) : Int)))] [] := by
  intro S hX
  rcases winE_b (g.1 0) (g.1 4) with h | h | h
  · exact iw_over0 h S hX
  · exact iw_over1 h S hX
  · rcases hX.2.1.1.2.2.2.2.2.1 with h5 | h5
    · exact iw_on0 h h5 S hX
    · exact iw_on1 h h5 S hX
set_option maxHeartbeats 2000000 in
set_option maxRecDepth 20000 in
theorem iw_188 {A : Nat → Nat} {g : GS} {tx : Int → Int} {L : Nat} : ∀ S, XT S A g tx L → Jd yL_isWell cL_isWell 7 (some .boolean) 16 260 83000 (kIS 1 (fun T => XT T A g tx L)) 56 18242 S 188 [some (.ref (A 0)), some (.int (iI 1)), some (.int (iI (tmF g.1 0))), some (.int (iI (tmF g.1 1))), none, none, none] [.int (iI 1)] := by
  intro S hX
  refine J_istore_n (pc1 := 189) (L1 := [some (.ref (A 0)), some (.int (iI 1)), some (.int (iI (tmF g.1 0))), some (.int (iI (tmF g.1 1))), none, none, none]) rfl (i := 1) dL_isWell_188 rfl (by decide) rfl rfl ?_
  refine J_iconst (pc1 := 190) dL_isWell_189 rfl ?_
  refine J_istore (pc1 := 192) (L1 := [some (.ref (A 0)), some (.int (iI 1)), some (.int (iI (tmF g.1 0))), some (.int (iI (tmF g.1 1))), some (.int (iI 0)), none, none]) dL_isWell_190 rfl (by decide) rfl rfl ?_
  refine J_iload (pc1 := 194) rfl dL_isWell_192 rfl ?_
  refine J_iconst (pc1 := 195) dL_isWell_194 rfl ?_
  refine J_icmp_ge (pc1 := 198) (tgt := 326) (by decide) (by decide) (by decide) (by decide) dL_isWell_195 rfl rfl (fun hc1 => ?_) (fun hc1 => ?_)
  · exact absurd hc1 (by decide)
  · refine J_aload_n (pc1 := 199) rfl (i := 0) rfl dL_isWell_198 rfl ?_
    refine J_iload (pc1 := 201) rfl dL_isWell_199 rfl ?_
    refine J_bipush (pc1 := 203) (by decide) dL_isWell_201 rfl ?_
    refine J_mX (pc1 := 206) gv_L_37 yv_X9_player hX (m_pl (p := 0) (w := 6) (z := tmF g.1 0) (Or.inl rfl) (by decide) (rfl)) dL_isWell_203 rfl rfl rfl (by omega) (by decide) (by omega) (by omega) (Nat.le_of_ble_eq_true rfl) (fun S1 h1 => ?_)
    refine J_istore (pc1 := 208) (L1 := [some (.ref (A 0)), some (.int (iI 1)), some (.int (iI (tmF g.1 0))), some (.int (iI (tmF g.1 1))), some (.int (iI 0)), some (.int (iI (tmF g.1 0))), none]) dL_isWell_206 rfl (by decide) rfl rfl ?_
    refine J_iload_n (pc1 := 209) rfl (i := 1) rfl dL_isWell_208 rfl ?_
    refine J_if_eq (pc1 := 212) (tgt := 239) (by decide) (by decide) dL_isWell_209 rfl rfl (fun hc2 => ?_) (fun hc2 => ?_)
    · exact absurd hc2 (by decide)
    · refine J_aload_n (pc1 := 213) rfl (i := 0) rfl dL_isWell_212 rfl ?_
      refine J_iload (pc1 := 215) rfl dL_isWell_213 rfl ?_
      refine J_iconst (pc1 := 216) dL_isWell_215 rfl ?_
      refine J_mX (pc1 := 219) gv_L_37 yv_X9_player h1 (m_pl (p := 0) (w := 1) (z := g.1 7 + g.1 1) (Or.inl rfl) (by decide) (rfl)) dL_isWell_216 rfl rfl rfl (by omega) (by decide) (by omega) (by omega) (Nat.le_of_ble_eq_true rfl) (fun S2 h2 => ?_)
      refine J_aload_n (pc1 := 220) rfl (i := 0) rfl dL_isWell_219 rfl ?_
      refine J_iload (pc1 := 222) rfl dL_isWell_220 rfl ?_
      refine J_iconst (pc1 := 223) dL_isWell_222 rfl ?_
      refine J_mX (pc1 := 226) gv_L_37 yv_X9_player h2 (m_pl (p := 0) (w := 0) (z := g.1 7) (Or.inl rfl) (by decide) (rfl)) dL_isWell_223 rfl rfl rfl (by omega) (by decide) (by omega) (by omega) (Nat.le_of_ble_eq_true rfl) (fun S3 h3 => ?_)
      refine J_aload_n (pc1 := 227) rfl (i := 0) rfl dL_isWell_226 rfl ?_
      refine J_iconst (pc1 := 228) dL_isWell_227 rfl ?_
      refine J_mX (pc1 := 231) gv_L_23 yv_X9_count h3 (m_cn (w := 1) (z := g.1 1) (by decide) (rfl)) dL_isWell_228 rfl rfl rfl (by omega) (by decide) (by omega) (by omega) (Nat.le_of_ble_eq_true rfl) (fun S4 h4 => ?_)
      refine J_iadd (pc1 := 232) dL_isWell_231 rfl ?_
      refine J_neS (pc1 := 235) (tgt := 239) dL_isWell_232 rfl rfl (rfl) ?_
      refine J_iconst (pc1 := 236) dL_isWell_235 rfl ?_
      refine J_goto (tgt := 240) dL_isWell_236 rfl ?_
      refine J_istore_n (pc1 := 241) (L1 := [some (.ref (A 0)), some (.int (iI 1)), some (.int (iI (tmF g.1 0))), some (.int (iI (tmF g.1 1))), some (.int (iI 0)), some (.int (iI (tmF g.1 0))), none]) rfl (i := 1) dL_isWell_240 rfl (by decide) rfl rfl ?_
      refine J_iconst (pc1 := 242) dL_isWell_241 rfl ?_
      refine J_istore (pc1 := 244) (L1 := [some (.ref (A 0)), some (.int (iI 1)), some (.int (iI (tmF g.1 0))), some (.int (iI (tmF g.1 1))), some (.int (iI 0)), some (.int (iI (tmF g.1 0))), some (.int (iI 0))]) dL_isWell_242 rfl (by decide) rfl rfl ?_
      refine J_w (c1 := 68) (s1 := 22151) (by omega) (by omega) ?_
      refine iw_in (p := 0) (c := 68) (s := 22151) (Or.inl rfl) (by omega) (by omega) (fun S5 h5 => ?_) 9 0 rfl _ h4
      refine J_iinc (pc1 := 323) (L1 := [some (.ref (A 0)), some (.int (iI 1)), some (.int (iI (tmF g.1 0))), some (.int (iI (tmF g.1 1))), some (.int (iI 1)), some (.int (iI (tmF g.1 0))), some (.int (iI ((9 : Nat) : Int)))]) dL_isWell_320 rfl rfl (by decide) rfl rfl ?_
      refine J_goto (tgt := 192) dL_isWell_323 rfl ?_
      refine J_iload (pc1 := 194) rfl dL_isWell_192 rfl ?_
      refine J_iconst (pc1 := 195) dL_isWell_194 rfl ?_
      refine J_icmp_ge (pc1 := 198) (tgt := 326) (by decide) (by decide) (by decide) (by decide) dL_isWell_195 rfl rfl (fun hc3 => ?_) (fun hc3 => ?_)
      · exact absurd hc3 (by decide)
      · refine J_aload_n (pc1 := 199) rfl (i := 0) rfl dL_isWell_198 rfl ?_
        refine J_iload (pc1 := 201) rfl dL_isWell_199 rfl ?_
        refine J_bipush (pc1 := 203) (by decide) dL_isWell_201 rfl ?_
        refine J_mX (pc1 := 206) gv_L_37 yv_X9_player h5 (m_pl (p := 1) (w := 6) (z := tmF g.1 1) (Or.inr rfl) (by decide) (rfl)) dL_isWell_203 rfl rfl rfl (by omega) (by decide) (by omega) (by omega) (Nat.le_of_ble_eq_true rfl) (fun S6 h6 => ?_)
        refine J_istore (pc1 := 208) (L1 := [some (.ref (A 0)), some (.int (iI 1)), some (.int (iI (tmF g.1 0))), some (.int (iI (tmF g.1 1))), some (.int (iI 1)), some (.int (iI (tmF g.1 1))), some (.int (iI ((9 : Nat) : Int)))]) dL_isWell_206 rfl (by decide) rfl rfl ?_
        refine J_iload_n (pc1 := 209) rfl (i := 1) rfl dL_isWell_208 rfl ?_
        refine J_if_eq (pc1 := 212) (tgt := 239) (by decide) (by decide) dL_isWell_209 rfl rfl (fun hc4 => ?_) (fun hc4 => ?_)
        · exact absurd hc4 (by decide)
        · refine J_aload_n (pc1 := 213) rfl (i := 0) rfl dL_isWell_212 rfl ?_
          refine J_iload (pc1 := 215) rfl dL_isWell_213 rfl ?_
          refine J_iconst (pc1 := 216) dL_isWell_215 rfl ?_
          refine J_mX (pc1 := 219) gv_L_37 yv_X9_player h6 (m_pl (p := 1) (w := 1) (z := g.1 8 + g.1 1) (Or.inr rfl) (by decide) (rfl)) dL_isWell_216 rfl rfl rfl (by omega) (by decide) (by omega) (by omega) (Nat.le_of_ble_eq_true rfl) (fun S7 h7 => ?_)
          refine J_aload_n (pc1 := 220) rfl (i := 0) rfl dL_isWell_219 rfl ?_
          refine J_iload (pc1 := 222) rfl dL_isWell_220 rfl ?_
          refine J_iconst (pc1 := 223) dL_isWell_222 rfl ?_
          refine J_mX (pc1 := 226) gv_L_37 yv_X9_player h7 (m_pl (p := 1) (w := 0) (z := g.1 8) (Or.inr rfl) (by decide) (rfl)) dL_isWell_223 rfl rfl rfl (by omega) (by decide) (by omega) (by omega) (Nat.le_of_ble_eq_true rfl) (fun S8 h8 => ?_)
          refine J_aload_n (pc1 := 227) rfl (i := 0) rfl dL_isWell_226 rfl ?_
          refine J_iconst (pc1 := 228) dL_isWell_227 rfl ?_
          refine J_mX (pc1 := 231) gv_L_23 yv_X9_count h8 (m_cn (w := 1) (z := g.1 1) (by decide) (rfl)) dL_isWell_228 rfl rfl rfl (by omega) (by decide) (by omega) (by omega) (Nat.le_of_ble_eq_true rfl) (fun S9 h9 => ?_)
          refine J_iadd (pc1 := 232) dL_isWell_231 rfl ?_
          refine J_neS (pc1 := 235) (tgt := 239) dL_isWell_232 rfl rfl (rfl) ?_
          refine J_iconst (pc1 := 236) dL_isWell_235 rfl ?_
          refine J_goto (tgt := 240) dL_isWell_236 rfl ?_
          refine J_istore_n (pc1 := 241) (L1 := [some (.ref (A 0)), some (.int (iI 1)), some (.int (iI (tmF g.1 0))), some (.int (iI (tmF g.1 1))), some (.int (iI 1)), some (.int (iI (tmF g.1 1))), some (.int (iI ((9 : Nat) : Int)))]) rfl (i := 1) dL_isWell_240 rfl (by decide) rfl rfl ?_
          refine J_iconst (pc1 := 242) dL_isWell_241 rfl ?_
          refine J_istore (pc1 := 244) (L1 := [some (.ref (A 0)), some (.int (iI 1)), some (.int (iI (tmF g.1 0))), some (.int (iI (tmF g.1 1))), some (.int (iI 1)), some (.int (iI (tmF g.1 1))), some (.int (iI 0))]) dL_isWell_242 rfl (by decide) rfl rfl ?_
          refine J_w (c1 := 152) (s1 := 49514) (by omega) (by omega) ?_
          refine iw_in (p := 1) (c := 152) (s := 49514) (Or.inr rfl) (by omega) (by omega) (fun S10 h10 => ?_) 9 0 rfl _ h9
          refine J_iinc (pc1 := 323) (L1 := [some (.ref (A 0)), some (.int (iI 1)), some (.int (iI (tmF g.1 0))), some (.int (iI (tmF g.1 1))), some (.int (iI 2)), some (.int (iI (tmF g.1 1))), some (.int (iI ((9 : Nat) : Int)))]) dL_isWell_320 rfl rfl (by decide) rfl rfl ?_
          refine J_goto (tgt := 192) dL_isWell_323 rfl ?_
          refine J_iload (pc1 := 194) rfl dL_isWell_192 rfl ?_
          refine J_iconst (pc1 := 195) dL_isWell_194 rfl ?_
          refine J_icmp_ge (pc1 := 198) (tgt := 326) (by decide) (by decide) (by decide) (by decide) dL_isWell_195 rfl rfl (fun hc5 => ?_) (fun hc5 => ?_)
          · exact J_w (by omega) (by omega) (iw_326 _ h10)
          · exact absurd hc5 (by decide)
set_option maxHeartbeats 2000000 in
set_option maxRecDepth 20000 in
theorem iw_149 {A : Nat → Nat} {g : GS} {tx : Int → Int} {L : Nat} : ∀ S, XT S A g tx L → Jd yL_isWell cL_isWell 7 (some .boolean) 16 260 83000 (kIS 1 (fun T => XT T A g tx L)) 48 15636 S 149 [some (.ref (A 0)), some (.int (iI 1)), none, none, none, none, none] [] := by
  intro S hX
  have ht0 := tm_b g.1 0
  have ht1 := tm_b g.1 1
  have hex := tm_ex hX.2.1.1
  refine J_aload_n (pc1 := 150) rfl (i := 0) rfl dL_isWell_149 rfl ?_
  refine J_iconst (pc1 := 151) dL_isWell_150 rfl ?_
  refine J_bipush (pc1 := 153) (by decide) dL_isWell_151 rfl ?_
  refine J_mX (pc1 := 156) gv_L_37 yv_X9_player hX (m_pl (p := 0) (w := 6) (z := tmF g.1 0) (Or.inl rfl) (by decide) (rfl)) dL_isWell_153 rfl rfl rfl (by omega) (by decide) (by omega) (by omega) (Nat.le_of_ble_eq_true rfl) (fun S1 h1 => ?_)
  refine J_istore_n (pc1 := 157) (L1 := [some (.ref (A 0)), some (.int (iI 1)), some (.int (iI (tmF g.1 0))), none, none, none, none]) rfl (i := 2) dL_isWell_156 rfl (by decide) rfl rfl ?_
  refine J_aload_n (pc1 := 158) rfl (i := 0) rfl dL_isWell_157 rfl ?_
  refine J_iconst (pc1 := 159) dL_isWell_158 rfl ?_
  refine J_bipush (pc1 := 161) (by decide) dL_isWell_159 rfl ?_
  refine J_mX (pc1 := 164) gv_L_37 yv_X9_player h1 (m_pl (p := 1) (w := 6) (z := tmF g.1 1) (Or.inr rfl) (by decide) (rfl)) dL_isWell_161 rfl rfl rfl (by omega) (by decide) (by omega) (by omega) (Nat.le_of_ble_eq_true rfl) (fun S2 h2 => ?_)
  refine J_istore_n (pc1 := 165) (L1 := [some (.ref (A 0)), some (.int (iI 1)), some (.int (iI (tmF g.1 0))), some (.int (iI (tmF g.1 1))), none, none, none]) rfl (i := 3) dL_isWell_164 rfl (by decide) rfl rfl ?_
  refine J_iload_n (pc1 := 166) rfl (i := 1) rfl dL_isWell_165 rfl ?_
  refine J_if_eq (pc1 := 169) (tgt := 187) (by decide) (by decide) dL_isWell_166 rfl rfl (fun hc1 => ?_) (fun hc1 => ?_)
  · exact absurd hc1 (by decide)
  · refine J_iload_n (pc1 := 170) rfl (i := 2) rfl dL_isWell_169 rfl ?_
    refine J_sipush (pc1 := 173) (by decide) dL_isWell_170 rfl ?_
    refine J_icmp_eq (pc1 := 176) (tgt := 183) (by omega) (by omega) (by decide) (by decide) dL_isWell_173 rfl rfl (fun hc2 => ?_) (fun hc2 => ?_)
    · refine J_iconst (pc1 := 184) dL_isWell_183 rfl ?_
      refine J_goto (tgt := 188) dL_isWell_184 rfl ?_
      exact J_w (by omega) (by omega) (iw_188 _ h2)
    · refine J_iload_n (pc1 := 177) rfl (i := 3) rfl dL_isWell_176 rfl ?_
      refine J_sipush (pc1 := 180) (by decide) dL_isWell_177 rfl ?_
      refine J_icmp_ne (pc1 := 183) (tgt := 187) (by omega) (by omega) (by decide) (by decide) dL_isWell_180 rfl rfl (fun hc3 => ?_) (fun hc3 => ?_)
      · exact absurd (hex.resolve_left (by omega)) hc3
      · refine J_iconst (pc1 := 184) dL_isWell_183 rfl ?_
        refine J_goto (tgt := 188) dL_isWell_184 rfl ?_
        exact J_w (by omega) (by omega) (iw_188 _ h2)
set_option maxHeartbeats 2000000 in
set_option maxRecDepth 20000 in
theorem iw_a0 {A : Nat → Nat} {g : GS} {tx : Int → Int} {L : Nat} (hps : g.1 2 = 0) : ∀ S, XT S A g tx L → Jd yL_isWell cL_isWell 7 (some .boolean) 16 260 83000 (kIS 1 (fun T => XT T A g tx L)) 0 0 S 0 [some (.ref (A 0)), none, none, none, none, none, none] [] := by
  intro S hX
  obtain ⟨w1, w2, w3, w4, w5⟩ := hX.2.2.1
  refine J_aload_n (pc1 := 1) rfl (i := 0) rfl dL_isWell_0 rfl ?_
  refine J_iconst (pc1 := 2) dL_isWell_1 rfl ?_
  refine J_iconst (pc1 := 3) dL_isWell_2 rfl ?_
  refine J_mX (pc1 := 6) gv_L_37 yv_X9_player hX (m_pl (p := 0) (w := 0) (z := g.1 7) (Or.inl rfl) (by decide) (rfl)) dL_isWell_3 rfl rfl rfl (by omega) (by decide) (by omega) (by omega) (Nat.le_of_ble_eq_true rfl) (fun S1 h1 => ?_)
  refine J_aload_n (pc1 := 7) rfl (i := 0) rfl dL_isWell_6 rfl ?_
  refine J_iconst (pc1 := 8) dL_isWell_7 rfl ?_
  refine J_iconst (pc1 := 9) dL_isWell_8 rfl ?_
  refine J_mX (pc1 := 12) gv_L_37 yv_X9_player h1 (m_pl (p := 1) (w := 0) (z := g.1 8) (Or.inr rfl) (by decide) (rfl)) dL_isWell_9 rfl rfl rfl (by omega) (by decide) (by omega) (by omega) (Nat.le_of_ble_eq_true rfl) (fun S2 h2 => ?_)
  refine J_iadd (pc1 := 13) dL_isWell_12 rfl ?_
  refine J_aload_n (pc1 := 14) rfl (i := 0) rfl dL_isWell_13 rfl ?_
  refine J_bipush (pc1 := 16) (by decide) dL_isWell_14 rfl ?_
  refine J_mX (pc1 := 19) gv_L_23 yv_X9_count h2 (m_cn (w := 8) (z := g.1 17) (by decide) (rfl)) dL_isWell_16 rfl rfl rfl (by omega) (by decide) (by omega) (by omega) (Nat.le_of_ble_eq_true rfl) (fun S3 h3 => ?_)
  refine J_iadd (pc1 := 20) dL_isWell_19 rfl ?_
  refine J_aload_n (pc1 := 21) rfl (i := 0) rfl dL_isWell_20 rfl ?_
  refine J_iconst (pc1 := 22) dL_isWell_21 rfl ?_
  refine J_iconst (pc1 := 23) dL_isWell_22 rfl ?_
  refine J_mX (pc1 := 26) gv_L_37 yv_X9_player h3 (m_pl (p := 0) (w := 2) (z := g.1 9) (Or.inl rfl) (by decide) (rfl)) dL_isWell_23 rfl rfl rfl (by omega) (by decide) (by omega) (by omega) (Nat.le_of_ble_eq_true rfl) (fun S4 h4 => ?_)
  refine J_aload_n (pc1 := 27) rfl (i := 0) rfl dL_isWell_26 rfl ?_
  refine J_iconst (pc1 := 28) dL_isWell_27 rfl ?_
  refine J_iconst (pc1 := 29) dL_isWell_28 rfl ?_
  refine J_mX (pc1 := 32) gv_L_37 yv_X9_player h4 (m_pl (p := 1) (w := 2) (z := g.1 10) (Or.inr rfl) (by decide) (rfl)) dL_isWell_29 rfl rfl rfl (by omega) (by decide) (by omega) (by omega) (Nat.le_of_ble_eq_true rfl) (fun S5 h5 => ?_)
  refine J_iadd (pc1 := 33) dL_isWell_32 rfl ?_
  refine J_neS (pc1 := 36) (tgt := 147) dL_isWell_33 rfl rfl (w1) ?_
  refine J_aload_n (pc1 := 37) rfl (i := 0) rfl dL_isWell_36 rfl ?_
  refine J_iconst (pc1 := 38) dL_isWell_37 rfl ?_
  refine J_iconst (pc1 := 39) dL_isWell_38 rfl ?_
  refine J_mX (pc1 := 42) gv_L_37 yv_X9_player h5 (m_pl (p := 0) (w := 4) (z := g.1 13) (Or.inl rfl) (by decide) (rfl)) dL_isWell_39 rfl rfl rfl (by omega) (by decide) (by omega) (by omega) (Nat.le_of_ble_eq_true rfl) (fun S6 h6 => ?_)
  refine J_aload_n (pc1 := 43) rfl (i := 0) rfl dL_isWell_42 rfl ?_
  refine J_iconst (pc1 := 44) dL_isWell_43 rfl ?_
  refine J_iconst (pc1 := 45) dL_isWell_44 rfl ?_
  refine J_mX (pc1 := 48) gv_L_37 yv_X9_player h6 (m_pl (p := 1) (w := 4) (z := g.1 14) (Or.inr rfl) (by decide) (rfl)) dL_isWell_45 rfl rfl rfl (by omega) (by decide) (by omega) (by omega) (Nat.le_of_ble_eq_true rfl) (fun S7 h7 => ?_)
  refine J_iadd (pc1 := 49) dL_isWell_48 rfl ?_
  refine J_aload_n (pc1 := 50) rfl (i := 0) rfl dL_isWell_49 rfl ?_
  refine J_bipush (pc1 := 52) (by decide) dL_isWell_50 rfl ?_
  refine J_mX (pc1 := 55) gv_L_23 yv_X9_count h7 (m_cn (w := 6) (z := g.1 6) (by decide) (rfl)) dL_isWell_52 rfl rfl rfl (by omega) (by decide) (by omega) (by omega) (Nat.le_of_ble_eq_true rfl) (fun S8 h8 => ?_)
  refine J_neS (pc1 := 58) (tgt := 147) dL_isWell_55 rfl rfl (w2) ?_
  refine J_aload_n (pc1 := 59) rfl (i := 0) rfl dL_isWell_58 rfl ?_
  refine J_iconst (pc1 := 60) dL_isWell_59 rfl ?_
  refine J_iconst (pc1 := 61) dL_isWell_60 rfl ?_
  refine J_mX (pc1 := 64) gv_L_37 yv_X9_player h8 (m_pl (p := 0) (w := 4) (z := g.1 13) (Or.inl rfl) (by decide) (rfl)) dL_isWell_61 rfl rfl rfl (by omega) (by decide) (by omega) (by omega) (Nat.le_of_ble_eq_true rfl) (fun S9 h9 => ?_)
  refine J_aload_n (pc1 := 65) rfl (i := 0) rfl dL_isWell_64 rfl ?_
  refine J_iconst (pc1 := 66) dL_isWell_65 rfl ?_
  refine J_iconst (pc1 := 67) dL_isWell_66 rfl ?_
  refine J_mX (pc1 := 70) gv_L_37 yv_X9_player h9 (m_pl (p := 1) (w := 4) (z := g.1 14) (Or.inr rfl) (by decide) (rfl)) dL_isWell_67 rfl rfl rfl (by omega) (by decide) (by omega) (by omega) (Nat.le_of_ble_eq_true rfl) (fun S10 h10 => ?_)
  refine J_isub (pc1 := 71) dL_isWell_70 rfl ?_
  refine J_aload_n (pc1 := 72) rfl (i := 0) rfl dL_isWell_71 rfl ?_
  refine J_iconst (pc1 := 73) dL_isWell_72 rfl ?_
  refine J_mX (pc1 := 76) gv_L_23 yv_X9_count h10 (m_cn (w := 4) (z := g.1 4) (by decide) (rfl)) dL_isWell_73 rfl rfl rfl (by omega) (by decide) (by omega) (by omega) (Nat.le_of_ble_eq_true rfl) (fun S11 h11 => ?_)
  refine J_neS (pc1 := 79) (tgt := 147) dL_isWell_76 rfl rfl (w3) ?_
  refine J_aload_n (pc1 := 80) rfl (i := 0) rfl dL_isWell_79 rfl ?_
  refine J_iconst (pc1 := 81) dL_isWell_80 rfl ?_
  refine J_iconst (pc1 := 82) dL_isWell_81 rfl ?_
  refine J_mX (pc1 := 85) gv_L_37 yv_X9_player h11 (m_pl (p := 0) (w := 5) (z := g.1 15) (Or.inl rfl) (by decide) (rfl)) dL_isWell_82 rfl rfl rfl (by omega) (by decide) (by omega) (by omega) (Nat.le_of_ble_eq_true rfl) (fun S12 h12 => ?_)
  refine J_aload_n (pc1 := 86) rfl (i := 0) rfl dL_isWell_85 rfl ?_
  refine J_iconst (pc1 := 87) dL_isWell_86 rfl ?_
  refine J_iconst (pc1 := 88) dL_isWell_87 rfl ?_
  refine J_mX (pc1 := 91) gv_L_37 yv_X9_player h12 (m_pl (p := 1) (w := 5) (z := g.1 16) (Or.inr rfl) (by decide) (rfl)) dL_isWell_88 rfl rfl rfl (by omega) (by decide) (by omega) (by omega) (Nat.le_of_ble_eq_true rfl) (fun S13 h13 => ?_)
  refine J_iadd (pc1 := 92) dL_isWell_91 rfl ?_
  refine J_aload_n (pc1 := 93) rfl (i := 0) rfl dL_isWell_92 rfl ?_
  refine J_bipush (pc1 := 95) (by decide) dL_isWell_93 rfl ?_
  refine J_mX (pc1 := 98) gv_L_23 yv_X9_count h13 (m_cn (w := 9) (z := g.1 15 + g.1 16) (by decide) (rfl)) dL_isWell_95 rfl rfl rfl (by omega) (by decide) (by omega) (by omega) (Nat.le_of_ble_eq_true rfl) (fun S14 h14 => ?_)
  refine J_neS (pc1 := 101) (tgt := 147) dL_isWell_98 rfl rfl (rfl) ?_
  refine J_aload_n (pc1 := 102) rfl (i := 0) rfl dL_isWell_101 rfl ?_
  refine J_iconst (pc1 := 103) dL_isWell_102 rfl ?_
  refine J_mX (pc1 := 106) gv_L_23 yv_X9_count h14 (m_cn (w := 2) (z := 0) (by decide) (cz2.trans hps)) dL_isWell_103 rfl rfl rfl (by omega) (by decide) (by omega) (by omega) (Nat.le_of_ble_eq_true rfl) (fun S15 h15 => ?_)
  refine J_if_ne (pc1 := 109) (tgt := 121) (by decide) (by decide) dL_isWell_106 rfl rfl (fun hc1 => ?_) (fun hc1 => ?_)
  · exact absurd hc1 (by decide)
  · refine J_aload_n (pc1 := 110) rfl (i := 0) rfl dL_isWell_109 rfl ?_
    refine J_bipush (pc1 := 112) (by decide) dL_isWell_110 rfl ?_
    refine J_mX (pc1 := 115) gv_L_23 yv_X9_count h15 (m_cn (w := 8) (z := g.1 17) (by decide) (rfl)) dL_isWell_112 rfl rfl rfl (by omega) (by decide) (by omega) (by omega) (Nat.le_of_ble_eq_true rfl) (fun S16 h16 => ?_)
    refine J_if_ne (pc1 := 118) (tgt := 147) (by omega) (by omega) dL_isWell_115 rfl rfl (fun hc2 => ?_) (fun hc2 => ?_)
    · exact absurd (w4 hps) hc2
    · refine J_goto (tgt := 143) dL_isWell_118 rfl ?_
      refine J_iconst (pc1 := 144) dL_isWell_143 rfl ?_
      refine J_goto (tgt := 148) dL_isWell_144 rfl ?_
      refine J_istore_n (pc1 := 149) (L1 := [some (.ref (A 0)), some (.int (iI 1)), none, none, none, none, none]) rfl (i := 1) dL_isWell_148 rfl (by decide) rfl rfl ?_
      exact J_w (by omega) (by omega) (iw_149 _ h16)
set_option maxHeartbeats 2000000 in
set_option maxRecDepth 20000 in
theorem iw_a1 {A : Nat → Nat} {g : GS} {tx : Int → Int} {L : Nat} (hps : g.1 2 = 1) : ∀ S, XT S A g tx L → Jd yL_isWell cL_isWell 7 (some .boolean) 16 260 83000 (kIS 1 (fun T => XT T A g tx L)) 0 0 S 0 [some (.ref (A 0)), none, none, none, none, none, none] [] := by
  intro S hX
  obtain ⟨w1, w2, w3, w4, w5⟩ := hX.2.2.1
  refine J_aload_n (pc1 := 1) rfl (i := 0) rfl dL_isWell_0 rfl ?_
  refine J_iconst (pc1 := 2) dL_isWell_1 rfl ?_
  refine J_iconst (pc1 := 3) dL_isWell_2 rfl ?_
  refine J_mX (pc1 := 6) gv_L_37 yv_X9_player hX (m_pl (p := 0) (w := 0) (z := g.1 7) (Or.inl rfl) (by decide) (rfl)) dL_isWell_3 rfl rfl rfl (by omega) (by decide) (by omega) (by omega) (Nat.le_of_ble_eq_true rfl) (fun S1 h1 => ?_)
  refine J_aload_n (pc1 := 7) rfl (i := 0) rfl dL_isWell_6 rfl ?_
  refine J_iconst (pc1 := 8) dL_isWell_7 rfl ?_
  refine J_iconst (pc1 := 9) dL_isWell_8 rfl ?_
  refine J_mX (pc1 := 12) gv_L_37 yv_X9_player h1 (m_pl (p := 1) (w := 0) (z := g.1 8) (Or.inr rfl) (by decide) (rfl)) dL_isWell_9 rfl rfl rfl (by omega) (by decide) (by omega) (by omega) (Nat.le_of_ble_eq_true rfl) (fun S2 h2 => ?_)
  refine J_iadd (pc1 := 13) dL_isWell_12 rfl ?_
  refine J_aload_n (pc1 := 14) rfl (i := 0) rfl dL_isWell_13 rfl ?_
  refine J_bipush (pc1 := 16) (by decide) dL_isWell_14 rfl ?_
  refine J_mX (pc1 := 19) gv_L_23 yv_X9_count h2 (m_cn (w := 8) (z := g.1 17) (by decide) (rfl)) dL_isWell_16 rfl rfl rfl (by omega) (by decide) (by omega) (by omega) (Nat.le_of_ble_eq_true rfl) (fun S3 h3 => ?_)
  refine J_iadd (pc1 := 20) dL_isWell_19 rfl ?_
  refine J_aload_n (pc1 := 21) rfl (i := 0) rfl dL_isWell_20 rfl ?_
  refine J_iconst (pc1 := 22) dL_isWell_21 rfl ?_
  refine J_iconst (pc1 := 23) dL_isWell_22 rfl ?_
  refine J_mX (pc1 := 26) gv_L_37 yv_X9_player h3 (m_pl (p := 0) (w := 2) (z := g.1 9) (Or.inl rfl) (by decide) (rfl)) dL_isWell_23 rfl rfl rfl (by omega) (by decide) (by omega) (by omega) (Nat.le_of_ble_eq_true rfl) (fun S4 h4 => ?_)
  refine J_aload_n (pc1 := 27) rfl (i := 0) rfl dL_isWell_26 rfl ?_
  refine J_iconst (pc1 := 28) dL_isWell_27 rfl ?_
  refine J_iconst (pc1 := 29) dL_isWell_28 rfl ?_
  refine J_mX (pc1 := 32) gv_L_37 yv_X9_player h4 (m_pl (p := 1) (w := 2) (z := g.1 10) (Or.inr rfl) (by decide) (rfl)) dL_isWell_29 rfl rfl rfl (by omega) (by decide) (by omega) (by omega) (Nat.le_of_ble_eq_true rfl) (fun S5 h5 => ?_)
  refine J_iadd (pc1 := 33) dL_isWell_32 rfl ?_
  refine J_neS (pc1 := 36) (tgt := 147) dL_isWell_33 rfl rfl (w1) ?_
  refine J_aload_n (pc1 := 37) rfl (i := 0) rfl dL_isWell_36 rfl ?_
  refine J_iconst (pc1 := 38) dL_isWell_37 rfl ?_
  refine J_iconst (pc1 := 39) dL_isWell_38 rfl ?_
  refine J_mX (pc1 := 42) gv_L_37 yv_X9_player h5 (m_pl (p := 0) (w := 4) (z := g.1 13) (Or.inl rfl) (by decide) (rfl)) dL_isWell_39 rfl rfl rfl (by omega) (by decide) (by omega) (by omega) (Nat.le_of_ble_eq_true rfl) (fun S6 h6 => ?_)
  refine J_aload_n (pc1 := 43) rfl (i := 0) rfl dL_isWell_42 rfl ?_
  refine J_iconst (pc1 := 44) dL_isWell_43 rfl ?_
  refine J_iconst (pc1 := 45) dL_isWell_44 rfl ?_
  refine J_mX (pc1 := 48) gv_L_37 yv_X9_player h6 (m_pl (p := 1) (w := 4) (z := g.1 14) (Or.inr rfl) (by decide) (rfl)) dL_isWell_45 rfl rfl rfl (by omega) (by decide) (by omega) (by omega) (Nat.le_of_ble_eq_true rfl) (fun S7 h7 => ?_)
  refine J_iadd (pc1 := 49) dL_isWell_48 rfl ?_
  refine J_aload_n (pc1 := 50) rfl (i := 0) rfl dL_isWell_49 rfl ?_
  refine J_bipush (pc1 := 52) (by decide) dL_isWell_50 rfl ?_
  refine J_mX (pc1 := 55) gv_L_23 yv_X9_count h7 (m_cn (w := 6) (z := g.1 6) (by decide) (rfl)) dL_isWell_52 rfl rfl rfl (by omega) (by decide) (by omega) (by omega) (Nat.le_of_ble_eq_true rfl) (fun S8 h8 => ?_)
  refine J_neS (pc1 := 58) (tgt := 147) dL_isWell_55 rfl rfl (w2) ?_
  refine J_aload_n (pc1 := 59) rfl (i := 0) rfl dL_isWell_58 rfl ?_
  refine J_iconst (pc1 := 60) dL_isWell_59 rfl ?_
  refine J_iconst (pc1 := 61) dL_isWell_60 rfl ?_
  refine J_mX (pc1 := 64) gv_L_37 yv_X9_player h8 (m_pl (p := 0) (w := 4) (z := g.1 13) (Or.inl rfl) (by decide) (rfl)) dL_isWell_61 rfl rfl rfl (by omega) (by decide) (by omega) (by omega) (Nat.le_of_ble_eq_true rfl) (fun S9 h9 => ?_)
  refine J_aload_n (pc1 := 65) rfl (i := 0) rfl dL_isWell_64 rfl ?_
  refine J_iconst (pc1 := 66) dL_isWell_65 rfl ?_
  refine J_iconst (pc1 := 67) dL_isWell_66 rfl ?_
  refine J_mX (pc1 := 70) gv_L_37 yv_X9_player h9 (m_pl (p := 1) (w := 4) (z := g.1 14) (Or.inr rfl) (by decide) (rfl)) dL_isWell_67 rfl rfl rfl (by omega) (by decide) (by omega) (by omega) (Nat.le_of_ble_eq_true rfl) (fun S10 h10 => ?_)
  refine J_isub (pc1 := 71) dL_isWell_70 rfl ?_
  refine J_aload_n (pc1 := 72) rfl (i := 0) rfl dL_isWell_71 rfl ?_
  refine J_iconst (pc1 := 73) dL_isWell_72 rfl ?_
  refine J_mX (pc1 := 76) gv_L_23 yv_X9_count h10 (m_cn (w := 4) (z := g.1 4) (by decide) (rfl)) dL_isWell_73 rfl rfl rfl (by omega) (by decide) (by omega) (by omega) (Nat.le_of_ble_eq_true rfl) (fun S11 h11 => ?_)
  refine J_neS (pc1 := 79) (tgt := 147) dL_isWell_76 rfl rfl (w3) ?_
  refine J_aload_n (pc1 := 80) rfl (i := 0) rfl dL_isWell_79 rfl ?_
  refine J_iconst (pc1 := 81) dL_isWell_80 rfl ?_
  refine J_iconst (pc1 := 82) dL_isWell_81 rfl ?_
  refine J_mX (pc1 := 85) gv_L_37 yv_X9_player h11 (m_pl (p := 0) (w := 5) (z := g.1 15) (Or.inl rfl) (by decide) (rfl)) dL_isWell_82 rfl rfl rfl (by omega) (by decide) (by omega) (by omega) (Nat.le_of_ble_eq_true rfl) (fun S12 h12 => ?_)
  refine J_aload_n (pc1 := 86) rfl (i := 0) rfl dL_isWell_85 rfl ?_
  refine J_iconst (pc1 := 87) dL_isWell_86 rfl ?_
  refine J_iconst (pc1 := 88) dL_isWell_87 rfl ?_
  refine J_mX (pc1 := 91) gv_L_37 yv_X9_player h12 (m_pl (p := 1) (w := 5) (z := g.1 16) (Or.inr rfl) (by decide) (rfl)) dL_isWell_88 rfl rfl rfl (by omega) (by decide) (by omega) (by omega) (Nat.le_of_ble_eq_true rfl) (fun S13 h13 => ?_)
  refine J_iadd (pc1 := 92) dL_isWell_91 rfl ?_
  refine J_aload_n (pc1 := 93) rfl (i := 0) rfl dL_isWell_92 rfl ?_
  refine J_bipush (pc1 := 95) (by decide) dL_isWell_93 rfl ?_
  refine J_mX (pc1 := 98) gv_L_23 yv_X9_count h13 (m_cn (w := 9) (z := g.1 15 + g.1 16) (by decide) (rfl)) dL_isWell_95 rfl rfl rfl (by omega) (by decide) (by omega) (by omega) (Nat.le_of_ble_eq_true rfl) (fun S14 h14 => ?_)
  refine J_neS (pc1 := 101) (tgt := 147) dL_isWell_98 rfl rfl (rfl) ?_
  refine J_aload_n (pc1 := 102) rfl (i := 0) rfl dL_isWell_101 rfl ?_
  refine J_iconst (pc1 := 103) dL_isWell_102 rfl ?_
  refine J_mX (pc1 := 106) gv_L_23 yv_X9_count h14 (m_cn (w := 2) (z := 1) (by decide) (cz2.trans hps)) dL_isWell_103 rfl rfl rfl (by omega) (by decide) (by omega) (by omega) (Nat.le_of_ble_eq_true rfl) (fun S15 h15 => ?_)
  refine J_if_ne (pc1 := 109) (tgt := 121) (by decide) (by decide) dL_isWell_106 rfl rfl (fun hc1 => ?_) (fun hc1 => ?_)
  · refine J_aload_n (pc1 := 122) rfl (i := 0) rfl dL_isWell_121 rfl ?_
    refine J_iconst (pc1 := 123) dL_isWell_122 rfl ?_
    refine J_iconst (pc1 := 124) dL_isWell_123 rfl ?_
    refine J_mX (pc1 := 127) gv_L_37 yv_X9_player h15 (m_pl (p := 0) (w := 3) (z := g.1 11) (Or.inl rfl) (by decide) (rfl)) dL_isWell_124 rfl rfl rfl (by omega) (by decide) (by omega) (by omega) (Nat.le_of_ble_eq_true rfl) (fun S16 h16 => ?_)
    refine J_aload_n (pc1 := 128) rfl (i := 0) rfl dL_isWell_127 rfl ?_
    refine J_iconst (pc1 := 129) dL_isWell_128 rfl ?_
    refine J_iconst (pc1 := 130) dL_isWell_129 rfl ?_
    refine J_mX (pc1 := 133) gv_L_37 yv_X9_player h16 (m_pl (p := 1) (w := 3) (z := g.1 12) (Or.inr rfl) (by decide) (rfl)) dL_isWell_130 rfl rfl rfl (by omega) (by decide) (by omega) (by omega) (Nat.le_of_ble_eq_true rfl) (fun S17 h17 => ?_)
    refine J_iadd (pc1 := 134) dL_isWell_133 rfl ?_
    refine J_aload_n (pc1 := 135) rfl (i := 0) rfl dL_isWell_134 rfl ?_
    refine J_bipush (pc1 := 137) (by decide) dL_isWell_135 rfl ?_
    refine J_mX (pc1 := 140) gv_L_23 yv_X9_count h17 (m_cn (w := 8) (z := g.1 17) (by decide) (rfl)) dL_isWell_137 rfl rfl rfl (by omega) (by decide) (by omega) (by omega) (Nat.le_of_ble_eq_true rfl) (fun S18 h18 => ?_)
    refine J_neS (pc1 := 143) (tgt := 147) dL_isWell_140 rfl rfl (w5 hps) ?_
    refine J_iconst (pc1 := 144) dL_isWell_143 rfl ?_
    refine J_goto (tgt := 148) dL_isWell_144 rfl ?_
    refine J_istore_n (pc1 := 149) (L1 := [some (.ref (A 0)), some (.int (iI 1)), none, none, none, none, none]) rfl (i := 1) dL_isWell_148 rfl (by decide) rfl rfl ?_
    exact J_w (by omega) (by omega) (iw_149 _ h18)
  · exact absurd hc1 (by decide)
set_option maxHeartbeats 400000 in
set_option maxRecDepth 20000 in
theorem m_isWell {g : GS} {tx : Int → Int} {L : Nat} : MC yL_isWell cL_isWell 7 (some .boolean) 16 260 83000 [] g tx L 1 g tx L := by
  intro A S hX
  refine Ct.ofJ (by decide +kernel) (Nat.le_of_ble_eq_true rfl) ?_
  refine J_L (L1 := [some (.ref (A 0)), none, none, none, none, none, none]) rfl ?_
  rcases hX.2.1.1.2.2.1 with hps | hps
  · exact iw_a0 hps S hX
  · exact iw_a1 hps S hX
