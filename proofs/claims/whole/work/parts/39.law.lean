/-! 39.law: the law's loop -/
section LAW
variable {bS nS : Nat} {xs : Nat → Int32} {K : Option Value → pS → Prop} {A B : Nat → Nat}
theorem INV_0 {S : pS} (h : INV A B S) : ∃ fs, S (A 0) = some (oO 9 fs) := by
  obtain ⟨f, f1, f2, b0, b1, n, H, tx, L, hX, -⟩ := h
  exact XS_0 hX
set_option maxRecDepth 20000 in
theorem ca_set {S : pS} {i c s : Nat} (hI : INV A B S) (hi : i + 3 ≤ nS) (hn : nS ≤ 1536) (hc : c + 28 ≤ 600000) (hs : s + 9121 ≤ 7302250) (k : ∀ U, INV A B U → JdL bS nS xs yL_law cL_law 4 (some .boolean) 20 600000 7302250 K (c + 28) (s + 9121) U 581 [some (.ref bS), some (.ref (A 0)), some (.ref (B 0)), some (.int (iI (i : Int)))] []) : JdL bS nS xs yL_law cL_law 4 (some .boolean) 20 600000 7302250 K c s S 124 [some (.ref bS), some (.ref (A 0)), some (.ref (B 0)), some (.int (iI (i : Int)))] [] := by
  obtain ⟨d1, mc, ms, d2, e1, e2, e3, e4, K1, C1, hC⟩ := p_set hI (k := (xs (i + 1)).toInt) (v := (xs (i + 2)).toInt) (i32_b _) (i32_b _)
  obtain ⟨fs1, hA0⟩ := INV_0 hI
  refine JL_aload_n (pc1 := 125) rfl (i := 1) rfl dL_law_124 rfl ?_
  refine JL_aload_n (pc1 := 126) rfl (i := 0) rfl dL_law_125 rfl ?_
  refine JL_iload_n (pc1 := 127) rfl (i := 3) rfl dL_law_126 rfl ?_
  refine JL_iconst (pc1 := 128) dL_law_127 rfl ?_
  refine JL_iadd (pc1 := 129) dL_law_128 rfl ?_
  refine JL_sld (pc1 := 130) (v := iI (xs (i + 1)).toInt) dL_law_129 rfl (by omega) (by omega) (by omega) (by rw [iI_of, show ((i : Int) + 1).toNat = i + 1 by omega]) ?_
  refine JL_aload_n (pc1 := 131) rfl (i := 0) rfl dL_law_130 rfl ?_
  refine JL_iload_n (pc1 := 132) rfl (i := 3) rfl dL_law_131 rfl ?_
  refine JL_iconst (pc1 := 133) dL_law_132 rfl ?_
  refine JL_iadd (pc1 := 134) dL_law_133 rfl ?_
  refine JL_sld (pc1 := 135) (v := iI (xs (i + 2)).toInt) dL_law_134 rfl (by omega) (by omega) (by omega) (by rw [iI_of, show ((i : Int) + 2).toNat = i + 2 by omega]) ?_
  refine JL_callV (pc1 := 138) (As := [.int (iI ((xs (i + 1)).toInt)), .int (iI ((xs (i + 2)).toInt))]) gv_L_13 yv_X9_set (ci := 9) rfl C1 dL_law_135 rfl hA0 rfl rfl (by omega) (by decide) (by omega) (by omega) (Nat.le_of_ble_eq_true rfl) (fun r T hr => ?_)
  obtain ⟨z, rfl, ⟨fs2, hB0⟩, K2, C2, hD⟩ := hC r T hr
  refine JL_st (st1 := [.int (iI z)]) rfl ?_
  refine JL_aload_n (pc1 := 139) rfl (i := 2) rfl dL_law_138 rfl ?_
  refine JL_aload_n (pc1 := 140) rfl (i := 0) rfl dL_law_139 rfl ?_
  refine JL_iload_n (pc1 := 141) rfl (i := 3) rfl dL_law_140 rfl ?_
  refine JL_iconst (pc1 := 142) dL_law_141 rfl ?_
  refine JL_iadd (pc1 := 143) dL_law_142 rfl ?_
  refine JL_sld (pc1 := 144) (v := iI (xs (i + 1)).toInt) dL_law_143 rfl (by omega) (by omega) (by omega) (by rw [iI_of, show ((i : Int) + 1).toNat = i + 1 by omega]) ?_
  refine JL_aload_n (pc1 := 145) rfl (i := 0) rfl dL_law_144 rfl ?_
  refine JL_iload_n (pc1 := 146) rfl (i := 3) rfl dL_law_145 rfl ?_
  refine JL_iconst (pc1 := 147) dL_law_146 rfl ?_
  refine JL_iadd (pc1 := 148) dL_law_147 rfl ?_
  refine JL_sld (pc1 := 149) (v := iI (xs (i + 2)).toInt) dL_law_148 rfl (by omega) (by omega) (by omega) (by rw [iI_of, show ((i : Int) + 2).toNat = i + 2 by omega]) ?_
  refine JL_callV (pc1 := 152) (As := [.int (iI ((xs (i + 1)).toInt)), .int (iI ((xs (i + 2)).toInt))]) gv_L_17 yv_X10_set (ci := 10) rfl C2 dL_law_149 rfl hB0 rfl rfl (by omega) (by decide) (by omega) (by omega) (Nat.le_of_ble_eq_true rfl) (fun r2 U hr2 => ?_)
  obtain ⟨rfl, hU⟩ := hD r2 U hr2
  refine JL_st (st1 := [.int (iI z), .int (iI z)]) rfl ?_
  refine JL_same (tgt := 581) dL_law_152 rfl ?_
  exact JL_widen (by omega) (by omega) (k U hU)
set_option maxRecDepth 20000 in
theorem ca_begin {S : pS} {i c s : Nat} (hI : INV A B S) (hi : i + 3 ≤ nS) (hn : nS ≤ 1536) (hc : c + 28 ≤ 600000) (hs : s + 9121 ≤ 7302250) (k : ∀ U, INV A B U → JdL bS nS xs yL_law cL_law 4 (some .boolean) 20 600000 7302250 K (c + 28) (s + 9121) U 581 [some (.ref bS), some (.ref (A 0)), some (.ref (B 0)), some (.int (iI (i : Int)))] []) : JdL bS nS xs yL_law cL_law 4 (some .boolean) 20 600000 7302250 K c s S 157 [some (.ref bS), some (.ref (A 0)), some (.ref (B 0)), some (.int (iI (i : Int)))] [] := by
  obtain ⟨d1, mc, ms, d2, e1, e2, e3, e4, K1, C1, hC⟩ := p_begin hI (a := (xs (i + 1)).toInt) (b := (xs (i + 2)).toInt) (i32_b _) (i32_b _)
  obtain ⟨fs1, hA0⟩ := INV_0 hI
  refine JL_aload_n (pc1 := 158) rfl (i := 1) rfl dL_law_157 rfl ?_
  refine JL_aload_n (pc1 := 159) rfl (i := 0) rfl dL_law_158 rfl ?_
  refine JL_iload_n (pc1 := 160) rfl (i := 3) rfl dL_law_159 rfl ?_
  refine JL_iconst (pc1 := 161) dL_law_160 rfl ?_
  refine JL_iadd (pc1 := 162) dL_law_161 rfl ?_
  refine JL_sld (pc1 := 163) (v := iI (xs (i + 1)).toInt) dL_law_162 rfl (by omega) (by omega) (by omega) (by rw [iI_of, show ((i : Int) + 1).toNat = i + 1 by omega]) ?_
  refine JL_aload_n (pc1 := 164) rfl (i := 0) rfl dL_law_163 rfl ?_
  refine JL_iload_n (pc1 := 165) rfl (i := 3) rfl dL_law_164 rfl ?_
  refine JL_iconst (pc1 := 166) dL_law_165 rfl ?_
  refine JL_iadd (pc1 := 167) dL_law_166 rfl ?_
  refine JL_sld (pc1 := 168) (v := iI (xs (i + 2)).toInt) dL_law_167 rfl (by omega) (by omega) (by omega) (by rw [iI_of, show ((i : Int) + 2).toNat = i + 2 by omega]) ?_
  refine JL_callV (pc1 := 171) (As := [.int (iI ((xs (i + 1)).toInt)), .int (iI ((xs (i + 2)).toInt))]) gv_L_18 yv_X9_begin (ci := 9) rfl C1 dL_law_168 rfl hA0 rfl rfl (by omega) (by decide) (by omega) (by omega) (Nat.le_of_ble_eq_true rfl) (fun r T hr => ?_)
  obtain ⟨z, rfl, ⟨fs2, hB0⟩, K2, C2, hD⟩ := hC r T hr
  refine JL_st (st1 := [.int (iI z)]) rfl ?_
  refine JL_aload_n (pc1 := 172) rfl (i := 2) rfl dL_law_171 rfl ?_
  refine JL_aload_n (pc1 := 173) rfl (i := 0) rfl dL_law_172 rfl ?_
  refine JL_iload_n (pc1 := 174) rfl (i := 3) rfl dL_law_173 rfl ?_
  refine JL_iconst (pc1 := 175) dL_law_174 rfl ?_
  refine JL_iadd (pc1 := 176) dL_law_175 rfl ?_
  refine JL_sld (pc1 := 177) (v := iI (xs (i + 1)).toInt) dL_law_176 rfl (by omega) (by omega) (by omega) (by rw [iI_of, show ((i : Int) + 1).toNat = i + 1 by omega]) ?_
  refine JL_aload_n (pc1 := 178) rfl (i := 0) rfl dL_law_177 rfl ?_
  refine JL_iload_n (pc1 := 179) rfl (i := 3) rfl dL_law_178 rfl ?_
  refine JL_iconst (pc1 := 180) dL_law_179 rfl ?_
  refine JL_iadd (pc1 := 181) dL_law_180 rfl ?_
  refine JL_sld (pc1 := 182) (v := iI (xs (i + 2)).toInt) dL_law_181 rfl (by omega) (by omega) (by omega) (by rw [iI_of, show ((i : Int) + 2).toNat = i + 2 by omega]) ?_
  refine JL_callV (pc1 := 185) (As := [.int (iI ((xs (i + 1)).toInt)), .int (iI ((xs (i + 2)).toInt))]) gv_L_21 yv_X10_begin (ci := 10) rfl C2 dL_law_182 rfl hB0 rfl rfl (by omega) (by decide) (by omega) (by omega) (Nat.le_of_ble_eq_true rfl) (fun r2 U hr2 => ?_)
  obtain ⟨rfl, hU⟩ := hD r2 U hr2
  refine JL_st (st1 := [.int (iI z), .int (iI z)]) rfl ?_
  refine JL_same (tgt := 581) dL_law_185 rfl ?_
  exact JL_widen (by omega) (by omega) (k U hU)
set_option maxRecDepth 20000 in
theorem ca_round {S : pS} {i c s : Nat} (hI : INV A B S) (hi : i + 3 ≤ nS) (hn : nS ≤ 1536) (hc : c + 28 ≤ 600000) (hs : s + 9121 ≤ 7302250) (k : ∀ U, INV A B U → JdL bS nS xs yL_law cL_law 4 (some .boolean) 20 600000 7302250 K (c + 28) (s + 9121) U 581 [some (.ref bS), some (.ref (A 0)), some (.ref (B 0)), some (.int (iI (i : Int)))] []) : JdL bS nS xs yL_law cL_law 4 (some .boolean) 20 600000 7302250 K c s S 190 [some (.ref bS), some (.ref (A 0)), some (.ref (B 0)), some (.int (iI (i : Int)))] [] := by
  obtain ⟨d1, mc, ms, d2, e1, e2, e3, e4, K1, C1, hC⟩ := p_round hI (b := (xs (i + 1)).toInt) (a := (xs (i + 2)).toInt) (i32_b _) (i32_b _)
  obtain ⟨fs1, hA0⟩ := INV_0 hI
  refine JL_aload_n (pc1 := 191) rfl (i := 1) rfl dL_law_190 rfl ?_
  refine JL_aload_n (pc1 := 192) rfl (i := 0) rfl dL_law_191 rfl ?_
  refine JL_iload_n (pc1 := 193) rfl (i := 3) rfl dL_law_192 rfl ?_
  refine JL_iconst (pc1 := 194) dL_law_193 rfl ?_
  refine JL_iadd (pc1 := 195) dL_law_194 rfl ?_
  refine JL_sld (pc1 := 196) (v := iI (xs (i + 1)).toInt) dL_law_195 rfl (by omega) (by omega) (by omega) (by rw [iI_of, show ((i : Int) + 1).toNat = i + 1 by omega]) ?_
  refine JL_aload_n (pc1 := 197) rfl (i := 0) rfl dL_law_196 rfl ?_
  refine JL_iload_n (pc1 := 198) rfl (i := 3) rfl dL_law_197 rfl ?_
  refine JL_iconst (pc1 := 199) dL_law_198 rfl ?_
  refine JL_iadd (pc1 := 200) dL_law_199 rfl ?_
  refine JL_sld (pc1 := 201) (v := iI (xs (i + 2)).toInt) dL_law_200 rfl (by omega) (by omega) (by omega) (by rw [iI_of, show ((i : Int) + 2).toNat = i + 2 by omega]) ?_
  refine JL_callV (pc1 := 204) (As := [.int (iI ((xs (i + 1)).toInt)), .int (iI ((xs (i + 2)).toInt))]) gv_L_22 yv_X9_round (ci := 9) rfl C1 dL_law_201 rfl hA0 rfl rfl (by omega) (by decide) (by omega) (by omega) (Nat.le_of_ble_eq_true rfl) (fun r T hr => ?_)
  obtain ⟨z, rfl, ⟨fs2, hB0⟩, K2, C2, hD⟩ := hC r T hr
  refine JL_st (st1 := [.int (iI z)]) rfl ?_
  refine JL_aload_n (pc1 := 205) rfl (i := 2) rfl dL_law_204 rfl ?_
  refine JL_aload_n (pc1 := 206) rfl (i := 0) rfl dL_law_205 rfl ?_
  refine JL_iload_n (pc1 := 207) rfl (i := 3) rfl dL_law_206 rfl ?_
  refine JL_iconst (pc1 := 208) dL_law_207 rfl ?_
  refine JL_iadd (pc1 := 209) dL_law_208 rfl ?_
  refine JL_sld (pc1 := 210) (v := iI (xs (i + 1)).toInt) dL_law_209 rfl (by omega) (by omega) (by omega) (by rw [iI_of, show ((i : Int) + 1).toNat = i + 1 by omega]) ?_
  refine JL_aload_n (pc1 := 211) rfl (i := 0) rfl dL_law_210 rfl ?_
  refine JL_iload_n (pc1 := 212) rfl (i := 3) rfl dL_law_211 rfl ?_
  refine JL_iconst (pc1 := 213) dL_law_212 rfl ?_
  refine JL_iadd (pc1 := 214) dL_law_213 rfl ?_
  refine JL_sld (pc1 := 215) (v := iI (xs (i + 2)).toInt) dL_law_214 rfl (by omega) (by omega) (by omega) (by rw [iI_of, show ((i : Int) + 2).toNat = i + 2 by omega]) ?_
  refine JL_callV (pc1 := 218) (As := [.int (iI ((xs (i + 1)).toInt)), .int (iI ((xs (i + 2)).toInt))]) gv_L_25 yv_X10_round (ci := 10) rfl C2 dL_law_215 rfl hB0 rfl rfl (by omega) (by decide) (by omega) (by omega) (Nat.le_of_ble_eq_true rfl) (fun r2 U hr2 => ?_)
  obtain ⟨rfl, hU⟩ := hD r2 U hr2
  refine JL_st (st1 := [.int (iI z), .int (iI z)]) rfl ?_
  refine JL_same (tgt := 581) dL_law_218 rfl ?_
  exact JL_widen (by omega) (by omega) (k U hU)
set_option maxRecDepth 20000 in
theorem ca_play {S : pS} {i c s : Nat} (hI : INV A B S) (hi : i + 3 ≤ nS) (hn : nS ≤ 1536) (hc : c + 28 ≤ 600000) (hs : s + 9121 ≤ 7302250) (k : ∀ U, INV A B U → JdL bS nS xs yL_law cL_law 4 (some .boolean) 20 600000 7302250 K (c + 28) (s + 9121) U 581 [some (.ref bS), some (.ref (A 0)), some (.ref (B 0)), some (.int (iI (i : Int)))] []) : JdL bS nS xs yL_law cL_law 4 (some .boolean) 20 600000 7302250 K c s S 223 [some (.ref bS), some (.ref (A 0)), some (.ref (B 0)), some (.int (iI (i : Int)))] [] := by
  obtain ⟨d1, mc, ms, d2, e1, e2, e3, e4, K1, C1, hC⟩ := p_play hI
  obtain ⟨fs1, hA0⟩ := INV_0 hI
  refine JL_aload_n (pc1 := 224) rfl (i := 1) rfl dL_law_223 rfl ?_
  refine JL_callV (pc1 := 227) (As := []) gv_L_26 yv_X9_play (ci := 9) rfl C1 dL_law_224 rfl hA0 rfl rfl (by omega) (by decide) (by omega) (by omega) (Nat.le_of_ble_eq_true rfl) (fun r T hr => ?_)
  obtain ⟨z, rfl, ⟨fs2, hB0⟩, K2, C2, hD⟩ := hC r T hr
  refine JL_st (st1 := [.int (iI z)]) rfl ?_
  refine JL_aload_n (pc1 := 228) rfl (i := 2) rfl dL_law_227 rfl ?_
  refine JL_callV (pc1 := 231) (As := []) gv_L_30 yv_X10_play (ci := 10) rfl C2 dL_law_228 rfl hB0 rfl rfl (by omega) (by decide) (by omega) (by omega) (Nat.le_of_ble_eq_true rfl) (fun r2 U hr2 => ?_)
  obtain ⟨rfl, hU⟩ := hD r2 U hr2
  refine JL_st (st1 := [.int (iI z), .int (iI z)]) rfl ?_
  refine JL_same (tgt := 581) dL_law_231 rfl ?_
  exact JL_widen (by omega) (by omega) (k U hU)
set_option maxRecDepth 20000 in
theorem ca_run {S : pS} {i c s : Nat} (hI : INV A B S) (hi : i + 3 ≤ nS) (hn : nS ≤ 1536) (hc : c + 28 ≤ 600000) (hs : s + 9121 ≤ 7302250) (k : ∀ U, INV A B U → JdL bS nS xs yL_law cL_law 4 (some .boolean) 20 600000 7302250 K (c + 28) (s + 9121) U 581 [some (.ref bS), some (.ref (A 0)), some (.ref (B 0)), some (.int (iI (i : Int)))] []) : JdL bS nS xs yL_law cL_law 4 (some .boolean) 20 600000 7302250 K c s S 236 [some (.ref bS), some (.ref (A 0)), some (.ref (B 0)), some (.int (iI (i : Int)))] [] := by
  obtain ⟨d1, mc, ms, d2, e1, e2, e3, e4, K1, C1, hC⟩ := p_run hI
  obtain ⟨fs1, hA0⟩ := INV_0 hI
  refine JL_aload_n (pc1 := 237) rfl (i := 1) rfl dL_law_236 rfl ?_
  refine JL_callV (pc1 := 240) (As := []) gv_L_31 yv_X9_run (ci := 9) rfl C1 dL_law_237 rfl hA0 rfl rfl (by omega) (by decide) (by omega) (by omega) (Nat.le_of_ble_eq_true rfl) (fun r T hr => ?_)
  obtain ⟨z, rfl, ⟨fs2, hB0⟩, K2, C2, hD⟩ := hC r T hr
  refine JL_st (st1 := [.int (iI z)]) rfl ?_
  refine JL_aload_n (pc1 := 241) rfl (i := 2) rfl dL_law_240 rfl ?_
  refine JL_callV (pc1 := 244) (As := []) gv_L_34 yv_X10_run (ci := 10) rfl C2 dL_law_241 rfl hB0 rfl rfl (by omega) (by decide) (by omega) (by omega) (Nat.le_of_ble_eq_true rfl) (fun r2 U hr2 => ?_)
  obtain ⟨rfl, hU⟩ := hD r2 U hr2
  refine JL_st (st1 := [.int (iI z), .int (iI z)]) rfl ?_
  refine JL_same (tgt := 581) dL_law_244 rfl ?_
  exact JL_widen (by omega) (by omega) (k U hU)
set_option maxRecDepth 20000 in
theorem ca_player {S : pS} {i c s : Nat} (hI : INV A B S) (hi : i + 3 ≤ nS) (hn : nS ≤ 1536) (hc : c + 28 ≤ 600000) (hs : s + 9121 ≤ 7302250) (k : ∀ U, INV A B U → JdL bS nS xs yL_law cL_law 4 (some .boolean) 20 600000 7302250 K (c + 28) (s + 9121) U 581 [some (.ref bS), some (.ref (A 0)), some (.ref (B 0)), some (.int (iI (i : Int)))] []) : JdL bS nS xs yL_law cL_law 4 (some .boolean) 20 600000 7302250 K c s S 249 [some (.ref bS), some (.ref (A 0)), some (.ref (B 0)), some (.int (iI (i : Int)))] [] := by
  obtain ⟨d1, mc, ms, d2, e1, e2, e3, e4, K1, C1, hC⟩ := p_player hI (p := (xs (i + 1)).toInt) (w := (xs (i + 2)).toInt) (i32_b _) (i32_b _)
  obtain ⟨fs1, hA0⟩ := INV_0 hI
  refine JL_aload_n (pc1 := 250) rfl (i := 1) rfl dL_law_249 rfl ?_
  refine JL_aload_n (pc1 := 251) rfl (i := 0) rfl dL_law_250 rfl ?_
  refine JL_iload_n (pc1 := 252) rfl (i := 3) rfl dL_law_251 rfl ?_
  refine JL_iconst (pc1 := 253) dL_law_252 rfl ?_
  refine JL_iadd (pc1 := 254) dL_law_253 rfl ?_
  refine JL_sld (pc1 := 255) (v := iI (xs (i + 1)).toInt) dL_law_254 rfl (by omega) (by omega) (by omega) (by rw [iI_of, show ((i : Int) + 1).toNat = i + 1 by omega]) ?_
  refine JL_aload_n (pc1 := 256) rfl (i := 0) rfl dL_law_255 rfl ?_
  refine JL_iload_n (pc1 := 257) rfl (i := 3) rfl dL_law_256 rfl ?_
  refine JL_iconst (pc1 := 258) dL_law_257 rfl ?_
  refine JL_iadd (pc1 := 259) dL_law_258 rfl ?_
  refine JL_sld (pc1 := 260) (v := iI (xs (i + 2)).toInt) dL_law_259 rfl (by omega) (by omega) (by omega) (by rw [iI_of, show ((i : Int) + 2).toNat = i + 2 by omega]) ?_
  refine JL_callV (pc1 := 263) (As := [.int (iI ((xs (i + 1)).toInt)), .int (iI ((xs (i + 2)).toInt))]) gv_L_35 yv_X9_player (ci := 9) rfl C1 dL_law_260 rfl hA0 rfl rfl (by omega) (by decide) (by omega) (by omega) (Nat.le_of_ble_eq_true rfl) (fun r T hr => ?_)
  obtain ⟨z, rfl, ⟨fs2, hB0⟩, K2, C2, hD⟩ := hC r T hr
  refine JL_st (st1 := [.int (iI z)]) rfl ?_
  refine JL_aload_n (pc1 := 264) rfl (i := 2) rfl dL_law_263 rfl ?_
  refine JL_aload_n (pc1 := 265) rfl (i := 0) rfl dL_law_264 rfl ?_
  refine JL_iload_n (pc1 := 266) rfl (i := 3) rfl dL_law_265 rfl ?_
  refine JL_iconst (pc1 := 267) dL_law_266 rfl ?_
  refine JL_iadd (pc1 := 268) dL_law_267 rfl ?_
  refine JL_sld (pc1 := 269) (v := iI (xs (i + 1)).toInt) dL_law_268 rfl (by omega) (by omega) (by omega) (by rw [iI_of, show ((i : Int) + 1).toNat = i + 1 by omega]) ?_
  refine JL_aload_n (pc1 := 270) rfl (i := 0) rfl dL_law_269 rfl ?_
  refine JL_iload_n (pc1 := 271) rfl (i := 3) rfl dL_law_270 rfl ?_
  refine JL_iconst (pc1 := 272) dL_law_271 rfl ?_
  refine JL_iadd (pc1 := 273) dL_law_272 rfl ?_
  refine JL_sld (pc1 := 274) (v := iI (xs (i + 2)).toInt) dL_law_273 rfl (by omega) (by omega) (by omega) (by rw [iI_of, show ((i : Int) + 2).toNat = i + 2 by omega]) ?_
  refine JL_callV (pc1 := 277) (As := [.int (iI ((xs (i + 1)).toInt)), .int (iI ((xs (i + 2)).toInt))]) gv_L_38 yv_X10_player (ci := 10) rfl C2 dL_law_274 rfl hB0 rfl rfl (by omega) (by decide) (by omega) (by omega) (Nat.le_of_ble_eq_true rfl) (fun r2 U hr2 => ?_)
  obtain ⟨rfl, hU⟩ := hD r2 U hr2
  refine JL_st (st1 := [.int (iI z), .int (iI z)]) rfl ?_
  refine JL_same (tgt := 581) dL_law_277 rfl ?_
  exact JL_widen (by omega) (by omega) (k U hU)
set_option maxRecDepth 20000 in
theorem ca_count {S : pS} {i c s : Nat} (hI : INV A B S) (hi : i + 3 ≤ nS) (hn : nS ≤ 1536) (hc : c + 28 ≤ 600000) (hs : s + 9121 ≤ 7302250) (k : ∀ U, INV A B U → JdL bS nS xs yL_law cL_law 4 (some .boolean) 20 600000 7302250 K (c + 28) (s + 9121) U 581 [some (.ref bS), some (.ref (A 0)), some (.ref (B 0)), some (.int (iI (i : Int)))] []) : JdL bS nS xs yL_law cL_law 4 (some .boolean) 20 600000 7302250 K c s S 282 [some (.ref bS), some (.ref (A 0)), some (.ref (B 0)), some (.int (iI (i : Int)))] [] := by
  obtain ⟨d1, mc, ms, d2, e1, e2, e3, e4, K1, C1, hC⟩ := p_count hI (w := (xs (i + 1)).toInt) (i32_b _)
  obtain ⟨fs1, hA0⟩ := INV_0 hI
  refine JL_aload_n (pc1 := 283) rfl (i := 1) rfl dL_law_282 rfl ?_
  refine JL_aload_n (pc1 := 284) rfl (i := 0) rfl dL_law_283 rfl ?_
  refine JL_iload_n (pc1 := 285) rfl (i := 3) rfl dL_law_284 rfl ?_
  refine JL_iconst (pc1 := 286) dL_law_285 rfl ?_
  refine JL_iadd (pc1 := 287) dL_law_286 rfl ?_
  refine JL_sld (pc1 := 288) (v := iI (xs (i + 1)).toInt) dL_law_287 rfl (by omega) (by omega) (by omega) (by rw [iI_of, show ((i : Int) + 1).toNat = i + 1 by omega]) ?_
  refine JL_callV (pc1 := 291) (As := [.int (iI ((xs (i + 1)).toInt))]) gv_L_39 yv_X9_count (ci := 9) rfl C1 dL_law_288 rfl hA0 rfl rfl (by omega) (by decide) (by omega) (by omega) (Nat.le_of_ble_eq_true rfl) (fun r T hr => ?_)
  obtain ⟨z, rfl, ⟨fs2, hB0⟩, K2, C2, hD⟩ := hC r T hr
  refine JL_st (st1 := [.int (iI z)]) rfl ?_
  refine JL_aload_n (pc1 := 292) rfl (i := 2) rfl dL_law_291 rfl ?_
  refine JL_aload_n (pc1 := 293) rfl (i := 0) rfl dL_law_292 rfl ?_
  refine JL_iload_n (pc1 := 294) rfl (i := 3) rfl dL_law_293 rfl ?_
  refine JL_iconst (pc1 := 295) dL_law_294 rfl ?_
  refine JL_iadd (pc1 := 296) dL_law_295 rfl ?_
  refine JL_sld (pc1 := 297) (v := iI (xs (i + 1)).toInt) dL_law_296 rfl (by omega) (by omega) (by omega) (by rw [iI_of, show ((i : Int) + 1).toNat = i + 1 by omega]) ?_
  refine JL_callV (pc1 := 300) (As := [.int (iI ((xs (i + 1)).toInt))]) gv_L_43 yv_X10_count (ci := 10) rfl C2 dL_law_297 rfl hB0 rfl rfl (by omega) (by decide) (by omega) (by omega) (Nat.le_of_ble_eq_true rfl) (fun r2 U hr2 => ?_)
  obtain ⟨rfl, hU⟩ := hD r2 U hr2
  refine JL_st (st1 := [.int (iI z), .int (iI z)]) rfl ?_
  refine JL_same (tgt := 581) dL_law_300 rfl ?_
  exact JL_widen (by omega) (by omega) (k U hU)
set_option maxRecDepth 20000 in
theorem ca_forced {S : pS} {i c s : Nat} (hI : INV A B S) (hi : i + 3 ≤ nS) (hn : nS ≤ 1536) (hc : c + 28 ≤ 600000) (hs : s + 9121 ≤ 7302250) (k : ∀ U, INV A B U → JdL bS nS xs yL_law cL_law 4 (some .boolean) 20 600000 7302250 K (c + 28) (s + 9121) U 581 [some (.ref bS), some (.ref (A 0)), some (.ref (B 0)), some (.int (iI (i : Int)))] []) : JdL bS nS xs yL_law cL_law 4 (some .boolean) 20 600000 7302250 K c s S 305 [some (.ref bS), some (.ref (A 0)), some (.ref (B 0)), some (.int (iI (i : Int)))] [] := by
  obtain ⟨d1, mc, ms, d2, e1, e2, e3, e4, K1, C1, hC⟩ := p_forced hI (p := (xs (i + 1)).toInt) (r := (xs (i + 2)).toInt) (i32_b _) (i32_b _)
  obtain ⟨fs1, hA0⟩ := INV_0 hI
  refine JL_aload_n (pc1 := 306) rfl (i := 1) rfl dL_law_305 rfl ?_
  refine JL_aload_n (pc1 := 307) rfl (i := 0) rfl dL_law_306 rfl ?_
  refine JL_iload_n (pc1 := 308) rfl (i := 3) rfl dL_law_307 rfl ?_
  refine JL_iconst (pc1 := 309) dL_law_308 rfl ?_
  refine JL_iadd (pc1 := 310) dL_law_309 rfl ?_
  refine JL_sld (pc1 := 311) (v := iI (xs (i + 1)).toInt) dL_law_310 rfl (by omega) (by omega) (by omega) (by rw [iI_of, show ((i : Int) + 1).toNat = i + 1 by omega]) ?_
  refine JL_aload_n (pc1 := 312) rfl (i := 0) rfl dL_law_311 rfl ?_
  refine JL_iload_n (pc1 := 313) rfl (i := 3) rfl dL_law_312 rfl ?_
  refine JL_iconst (pc1 := 314) dL_law_313 rfl ?_
  refine JL_iadd (pc1 := 315) dL_law_314 rfl ?_
  refine JL_sld (pc1 := 316) (v := iI (xs (i + 2)).toInt) dL_law_315 rfl (by omega) (by omega) (by omega) (by rw [iI_of, show ((i : Int) + 2).toNat = i + 2 by omega]) ?_
  refine JL_callV (pc1 := 319) (As := [.int (iI ((xs (i + 1)).toInt)), .int (iI ((xs (i + 2)).toInt))]) gv_L_44 yv_X9_forced (ci := 9) rfl C1 dL_law_316 rfl hA0 rfl rfl (by omega) (by decide) (by omega) (by omega) (Nat.le_of_ble_eq_true rfl) (fun r T hr => ?_)
  obtain ⟨z, rfl, ⟨fs2, hB0⟩, K2, C2, hD⟩ := hC r T hr
  refine JL_st (st1 := [.int (iI z)]) rfl ?_
  refine JL_aload_n (pc1 := 320) rfl (i := 2) rfl dL_law_319 rfl ?_
  refine JL_aload_n (pc1 := 321) rfl (i := 0) rfl dL_law_320 rfl ?_
  refine JL_iload_n (pc1 := 322) rfl (i := 3) rfl dL_law_321 rfl ?_
  refine JL_iconst (pc1 := 323) dL_law_322 rfl ?_
  refine JL_iadd (pc1 := 324) dL_law_323 rfl ?_
  refine JL_sld (pc1 := 325) (v := iI (xs (i + 1)).toInt) dL_law_324 rfl (by omega) (by omega) (by omega) (by rw [iI_of, show ((i : Int) + 1).toNat = i + 1 by omega]) ?_
  refine JL_aload_n (pc1 := 326) rfl (i := 0) rfl dL_law_325 rfl ?_
  refine JL_iload_n (pc1 := 327) rfl (i := 3) rfl dL_law_326 rfl ?_
  refine JL_iconst (pc1 := 328) dL_law_327 rfl ?_
  refine JL_iadd (pc1 := 329) dL_law_328 rfl ?_
  refine JL_sld (pc1 := 330) (v := iI (xs (i + 2)).toInt) dL_law_329 rfl (by omega) (by omega) (by omega) (by rw [iI_of, show ((i : Int) + 2).toNat = i + 2 by omega]) ?_
  refine JL_callV (pc1 := 333) (As := [.int (iI ((xs (i + 1)).toInt)), .int (iI ((xs (i + 2)).toInt))]) gv_L_47 yv_X10_forced (ci := 10) rfl C2 dL_law_330 rfl hB0 rfl rfl (by omega) (by decide) (by omega) (by omega) (Nat.le_of_ble_eq_true rfl) (fun r2 U hr2 => ?_)
  obtain ⟨rfl, hU⟩ := hD r2 U hr2
  refine JL_st (st1 := [.int (iI z), .int (iI z)]) rfl ?_
  refine JL_same (tgt := 581) dL_law_333 rfl ?_
  exact JL_widen (by omega) (by omega) (k U hU)
set_option maxRecDepth 20000 in
theorem ca_ahead {S : pS} {i c s : Nat} (hI : INV A B S) (hi : i + 3 ≤ nS) (hn : nS ≤ 1536) (hc : c + 28 ≤ 600000) (hs : s + 9121 ≤ 7302250) (k : ∀ U, INV A B U → JdL bS nS xs yL_law cL_law 4 (some .boolean) 20 600000 7302250 K (c + 28) (s + 9121) U 581 [some (.ref bS), some (.ref (A 0)), some (.ref (B 0)), some (.int (iI (i : Int)))] []) : JdL bS nS xs yL_law cL_law 4 (some .boolean) 20 600000 7302250 K c s S 338 [some (.ref bS), some (.ref (A 0)), some (.ref (B 0)), some (.int (iI (i : Int)))] [] := by
  obtain ⟨d1, mc, ms, d2, e1, e2, e3, e4, K1, C1, hC⟩ := p_ahead hI (p := (xs (i + 1)).toInt) (r := (xs (i + 2)).toInt) (i32_b _) (i32_b _)
  obtain ⟨fs1, hA0⟩ := INV_0 hI
  refine JL_aload_n (pc1 := 339) rfl (i := 1) rfl dL_law_338 rfl ?_
  refine JL_aload_n (pc1 := 340) rfl (i := 0) rfl dL_law_339 rfl ?_
  refine JL_iload_n (pc1 := 341) rfl (i := 3) rfl dL_law_340 rfl ?_
  refine JL_iconst (pc1 := 342) dL_law_341 rfl ?_
  refine JL_iadd (pc1 := 343) dL_law_342 rfl ?_
  refine JL_sld (pc1 := 344) (v := iI (xs (i + 1)).toInt) dL_law_343 rfl (by omega) (by omega) (by omega) (by rw [iI_of, show ((i : Int) + 1).toNat = i + 1 by omega]) ?_
  refine JL_aload_n (pc1 := 345) rfl (i := 0) rfl dL_law_344 rfl ?_
  refine JL_iload_n (pc1 := 346) rfl (i := 3) rfl dL_law_345 rfl ?_
  refine JL_iconst (pc1 := 347) dL_law_346 rfl ?_
  refine JL_iadd (pc1 := 348) dL_law_347 rfl ?_
  refine JL_sld (pc1 := 349) (v := iI (xs (i + 2)).toInt) dL_law_348 rfl (by omega) (by omega) (by omega) (by rw [iI_of, show ((i : Int) + 2).toNat = i + 2 by omega]) ?_
  refine JL_callV (pc1 := 352) (As := [.int (iI ((xs (i + 1)).toInt)), .int (iI ((xs (i + 2)).toInt))]) gv_L_48 yv_X9_ahead (ci := 9) rfl C1 dL_law_349 rfl hA0 rfl rfl (by omega) (by decide) (by omega) (by omega) (Nat.le_of_ble_eq_true rfl) (fun r T hr => ?_)
  obtain ⟨z, rfl, ⟨fs2, hB0⟩, K2, C2, hD⟩ := hC r T hr
  refine JL_st (st1 := [.int (iI z)]) rfl ?_
  refine JL_aload_n (pc1 := 353) rfl (i := 2) rfl dL_law_352 rfl ?_
  refine JL_aload_n (pc1 := 354) rfl (i := 0) rfl dL_law_353 rfl ?_
  refine JL_iload_n (pc1 := 355) rfl (i := 3) rfl dL_law_354 rfl ?_
  refine JL_iconst (pc1 := 356) dL_law_355 rfl ?_
  refine JL_iadd (pc1 := 357) dL_law_356 rfl ?_
  refine JL_sld (pc1 := 358) (v := iI (xs (i + 1)).toInt) dL_law_357 rfl (by omega) (by omega) (by omega) (by rw [iI_of, show ((i : Int) + 1).toNat = i + 1 by omega]) ?_
  refine JL_aload_n (pc1 := 359) rfl (i := 0) rfl dL_law_358 rfl ?_
  refine JL_iload_n (pc1 := 360) rfl (i := 3) rfl dL_law_359 rfl ?_
  refine JL_iconst (pc1 := 361) dL_law_360 rfl ?_
  refine JL_iadd (pc1 := 362) dL_law_361 rfl ?_
  refine JL_sld (pc1 := 363) (v := iI (xs (i + 2)).toInt) dL_law_362 rfl (by omega) (by omega) (by omega) (by rw [iI_of, show ((i : Int) + 2).toNat = i + 2 by omega]) ?_
  refine JL_callV (pc1 := 366) (As := [.int (iI ((xs (i + 1)).toInt)), .int (iI ((xs (i + 2)).toInt))]) gv_L_51 yv_X10_ahead (ci := 10) rfl C2 dL_law_363 rfl hB0 rfl rfl (by omega) (by decide) (by omega) (by omega) (Nat.le_of_ble_eq_true rfl) (fun r2 U hr2 => ?_)
  obtain ⟨rfl, hU⟩ := hD r2 U hr2
  refine JL_st (st1 := [.int (iI z), .int (iI z)]) rfl ?_
  refine JL_same (tgt := 581) dL_law_366 rfl ?_
  exact JL_widen (by omega) (by omega) (k U hU)
set_option maxRecDepth 20000 in
theorem ca_bestBid {S : pS} {i c s : Nat} (hI : INV A B S) (hi : i + 3 ≤ nS) (hn : nS ≤ 1536) (hc : c + 28 ≤ 600000) (hs : s + 9121 ≤ 7302250) (k : ∀ U, INV A B U → JdL bS nS xs yL_law cL_law 4 (some .boolean) 20 600000 7302250 K (c + 28) (s + 9121) U 581 [some (.ref bS), some (.ref (A 0)), some (.ref (B 0)), some (.int (iI (i : Int)))] []) : JdL bS nS xs yL_law cL_law 4 (some .boolean) 20 600000 7302250 K c s S 371 [some (.ref bS), some (.ref (A 0)), some (.ref (B 0)), some (.int (iI (i : Int)))] [] := by
  obtain ⟨d1, mc, ms, d2, e1, e2, e3, e4, K1, C1, hC⟩ := p_bestBid hI
  obtain ⟨fs1, hA0⟩ := INV_0 hI
  refine JL_aload_n (pc1 := 372) rfl (i := 1) rfl dL_law_371 rfl ?_
  refine JL_callV (pc1 := 375) (As := []) gv_L_52 yv_X9_bestBid (ci := 9) rfl C1 dL_law_372 rfl hA0 rfl rfl (by omega) (by decide) (by omega) (by omega) (Nat.le_of_ble_eq_true rfl) (fun r T hr => ?_)
  obtain ⟨z, rfl, ⟨fs2, hB0⟩, K2, C2, hD⟩ := hC r T hr
  refine JL_st (st1 := [.int (iI z)]) rfl ?_
  refine JL_aload_n (pc1 := 376) rfl (i := 2) rfl dL_law_375 rfl ?_
  refine JL_callV (pc1 := 379) (As := []) gv_L_55 yv_X10_bestBid (ci := 10) rfl C2 dL_law_376 rfl hB0 rfl rfl (by omega) (by decide) (by omega) (by omega) (Nat.le_of_ble_eq_true rfl) (fun r2 U hr2 => ?_)
  obtain ⟨rfl, hU⟩ := hD r2 U hr2
  refine JL_st (st1 := [.int (iI z), .int (iI z)]) rfl ?_
  refine JL_same (tgt := 581) dL_law_379 rfl ?_
  exact JL_widen (by omega) (by omega) (k U hU)
set_option maxRecDepth 20000 in
theorem ca_bestAnswer {S : pS} {i c s : Nat} (hI : INV A B S) (hi : i + 3 ≤ nS) (hn : nS ≤ 1536) (hc : c + 28 ≤ 600000) (hs : s + 9121 ≤ 7302250) (k : ∀ U, INV A B U → JdL bS nS xs yL_law cL_law 4 (some .boolean) 20 600000 7302250 K (c + 28) (s + 9121) U 581 [some (.ref bS), some (.ref (A 0)), some (.ref (B 0)), some (.int (iI (i : Int)))] []) : JdL bS nS xs yL_law cL_law 4 (some .boolean) 20 600000 7302250 K c s S 384 [some (.ref bS), some (.ref (A 0)), some (.ref (B 0)), some (.int (iI (i : Int)))] [] := by
  obtain ⟨d1, mc, ms, d2, e1, e2, e3, e4, K1, C1, hC⟩ := p_bestAnswer hI (b := (xs (i + 1)).toInt) (i32_b _)
  obtain ⟨fs1, hA0⟩ := INV_0 hI
  refine JL_aload_n (pc1 := 385) rfl (i := 1) rfl dL_law_384 rfl ?_
  refine JL_aload_n (pc1 := 386) rfl (i := 0) rfl dL_law_385 rfl ?_
  refine JL_iload_n (pc1 := 387) rfl (i := 3) rfl dL_law_386 rfl ?_
  refine JL_iconst (pc1 := 388) dL_law_387 rfl ?_
  refine JL_iadd (pc1 := 389) dL_law_388 rfl ?_
  refine JL_sld (pc1 := 390) (v := iI (xs (i + 1)).toInt) dL_law_389 rfl (by omega) (by omega) (by omega) (by rw [iI_of, show ((i : Int) + 1).toNat = i + 1 by omega]) ?_
  refine JL_callV (pc1 := 393) (As := [.int (iI ((xs (i + 1)).toInt))]) gv_L_56 yv_X9_bestAnswer (ci := 9) rfl C1 dL_law_390 rfl hA0 rfl rfl (by omega) (by decide) (by omega) (by omega) (Nat.le_of_ble_eq_true rfl) (fun r T hr => ?_)
  obtain ⟨z, rfl, ⟨fs2, hB0⟩, K2, C2, hD⟩ := hC r T hr
  refine JL_st (st1 := [.int (iI z)]) rfl ?_
  refine JL_aload_n (pc1 := 394) rfl (i := 2) rfl dL_law_393 rfl ?_
  refine JL_aload_n (pc1 := 395) rfl (i := 0) rfl dL_law_394 rfl ?_
  refine JL_iload_n (pc1 := 396) rfl (i := 3) rfl dL_law_395 rfl ?_
  refine JL_iconst (pc1 := 397) dL_law_396 rfl ?_
  refine JL_iadd (pc1 := 398) dL_law_397 rfl ?_
  refine JL_sld (pc1 := 399) (v := iI (xs (i + 1)).toInt) dL_law_398 rfl (by omega) (by omega) (by omega) (by rw [iI_of, show ((i : Int) + 1).toNat = i + 1 by omega]) ?_
  refine JL_callV (pc1 := 402) (As := [.int (iI ((xs (i + 1)).toInt))]) gv_L_59 yv_X10_bestAnswer (ci := 10) rfl C2 dL_law_399 rfl hB0 rfl rfl (by omega) (by decide) (by omega) (by omega) (Nat.le_of_ble_eq_true rfl) (fun r2 U hr2 => ?_)
  obtain ⟨rfl, hU⟩ := hD r2 U hr2
  refine JL_st (st1 := [.int (iI z), .int (iI z)]) rfl ?_
  refine JL_same (tgt := 581) dL_law_402 rfl ?_
  exact JL_widen (by omega) (by omega) (k U hU)
set_option maxRecDepth 20000 in
theorem ca_keeps {S : pS} {i c s : Nat} (hI : INV A B S) (hi : i + 3 ≤ nS) (hn : nS ≤ 1536) (hc : c + 28 ≤ 600000) (hs : s + 9121 ≤ 7302250) (k : ∀ U, INV A B U → JdL bS nS xs yL_law cL_law 4 (some .boolean) 20 600000 7302250 K (c + 28) (s + 9121) U 581 [some (.ref bS), some (.ref (A 0)), some (.ref (B 0)), some (.int (iI (i : Int)))] []) : JdL bS nS xs yL_law cL_law 4 (some .boolean) 20 600000 7302250 K c s S 407 [some (.ref bS), some (.ref (A 0)), some (.ref (B 0)), some (.int (iI (i : Int)))] [] := by
  obtain ⟨d1, mc, ms, d2, e1, e2, e3, e4, K1, C1, hC⟩ := p_keeps hI
  obtain ⟨fs1, hA0⟩ := INV_0 hI
  refine JL_aload_n (pc1 := 408) rfl (i := 1) rfl dL_law_407 rfl ?_
  refine JL_callV (pc1 := 411) (As := []) gv_L_60 yv_X9_keeps (ci := 9) rfl C1 dL_law_408 rfl hA0 rfl rfl (by omega) (by decide) (by omega) (by omega) (Nat.le_of_ble_eq_true rfl) (fun r T hr => ?_)
  obtain ⟨z, rfl, ⟨fs2, hB0⟩, K2, C2, hD⟩ := hC r T hr
  refine JL_st (st1 := [.int (iI z)]) rfl ?_
  refine JL_aload_n (pc1 := 412) rfl (i := 2) rfl dL_law_411 rfl ?_
  refine JL_callV (pc1 := 415) (As := []) gv_L_63 yv_X10_keeps (ci := 10) rfl C2 dL_law_412 rfl hB0 rfl rfl (by omega) (by decide) (by omega) (by omega) (Nat.le_of_ble_eq_true rfl) (fun r2 U hr2 => ?_)
  obtain ⟨rfl, hU⟩ := hD r2 U hr2
  refine JL_st (st1 := [.int (iI z), .int (iI z)]) rfl ?_
  refine JL_same (tgt := 581) dL_law_415 rfl ?_
  exact JL_widen (by omega) (by omega) (k U hU)
set_option maxRecDepth 20000 in
theorem ca_leastHours {S : pS} {i c s : Nat} (hI : INV A B S) (hi : i + 3 ≤ nS) (hn : nS ≤ 1536) (hc : c + 28 ≤ 600000) (hs : s + 9121 ≤ 7302250) (k : ∀ U, INV A B U → JdL bS nS xs yL_law cL_law 4 (some .boolean) 20 600000 7302250 K (c + 28) (s + 9121) U 581 [some (.ref bS), some (.ref (A 0)), some (.ref (B 0)), some (.int (iI (i : Int)))] []) : JdL bS nS xs yL_law cL_law 4 (some .boolean) 20 600000 7302250 K c s S 420 [some (.ref bS), some (.ref (A 0)), some (.ref (B 0)), some (.int (iI (i : Int)))] [] := by
  obtain ⟨d1, mc, ms, d2, e1, e2, e3, e4, K1, C1, hC⟩ := p_leastHours hI (p := (xs (i + 1)).toInt) (i32_b _)
  obtain ⟨fs1, hA0⟩ := INV_0 hI
  refine JL_aload_n (pc1 := 421) rfl (i := 1) rfl dL_law_420 rfl ?_
  refine JL_aload_n (pc1 := 422) rfl (i := 0) rfl dL_law_421 rfl ?_
  refine JL_iload_n (pc1 := 423) rfl (i := 3) rfl dL_law_422 rfl ?_
  refine JL_iconst (pc1 := 424) dL_law_423 rfl ?_
  refine JL_iadd (pc1 := 425) dL_law_424 rfl ?_
  refine JL_sld (pc1 := 426) (v := iI (xs (i + 1)).toInt) dL_law_425 rfl (by omega) (by omega) (by omega) (by rw [iI_of, show ((i : Int) + 1).toNat = i + 1 by omega]) ?_
  refine JL_callV (pc1 := 429) (As := [.int (iI ((xs (i + 1)).toInt))]) gv_L_64 yv_X9_leastHours (ci := 9) rfl C1 dL_law_426 rfl hA0 rfl rfl (by omega) (by decide) (by omega) (by omega) (Nat.le_of_ble_eq_true rfl) (fun r T hr => ?_)
  obtain ⟨z, rfl, ⟨fs2, hB0⟩, K2, C2, hD⟩ := hC r T hr
  refine JL_st (st1 := [.int (iI z)]) rfl ?_
  refine JL_aload_n (pc1 := 430) rfl (i := 2) rfl dL_law_429 rfl ?_
  refine JL_aload_n (pc1 := 431) rfl (i := 0) rfl dL_law_430 rfl ?_
  refine JL_iload_n (pc1 := 432) rfl (i := 3) rfl dL_law_431 rfl ?_
  refine JL_iconst (pc1 := 433) dL_law_432 rfl ?_
  refine JL_iadd (pc1 := 434) dL_law_433 rfl ?_
  refine JL_sld (pc1 := 435) (v := iI (xs (i + 1)).toInt) dL_law_434 rfl (by omega) (by omega) (by omega) (by rw [iI_of, show ((i : Int) + 1).toNat = i + 1 by omega]) ?_
  refine JL_callV (pc1 := 438) (As := [.int (iI ((xs (i + 1)).toInt))]) gv_L_67 yv_X10_leastHours (ci := 10) rfl C2 dL_law_435 rfl hB0 rfl rfl (by omega) (by decide) (by omega) (by omega) (Nat.le_of_ble_eq_true rfl) (fun r2 U hr2 => ?_)
  obtain ⟨rfl, hU⟩ := hD r2 U hr2
  refine JL_st (st1 := [.int (iI z), .int (iI z)]) rfl ?_
  refine JL_same (tgt := 581) dL_law_438 rfl ?_
  exact JL_widen (by omega) (by omega) (k U hU)
set_option maxRecDepth 20000 in
theorem ca_put {S : pS} {i c s : Nat} (hI : INV A B S) (hi : i + 3 ≤ nS) (hn : nS ≤ 1536) (hc : c + 28 ≤ 600000) (hs : s + 9121 ≤ 7302250) (k : ∀ U, INV A B U → JdL bS nS xs yL_law cL_law 4 (some .boolean) 20 600000 7302250 K (c + 28) (s + 9121) U 581 [some (.ref bS), some (.ref (A 0)), some (.ref (B 0)), some (.int (iI (i : Int)))] []) : JdL bS nS xs yL_law cL_law 4 (some .boolean) 20 600000 7302250 K c s S 443 [some (.ref bS), some (.ref (A 0)), some (.ref (B 0)), some (.int (iI (i : Int)))] [] := by
  obtain ⟨x, hx64, hx⟩ : ∃ x : Nat, x < 2 ^ 64 ∧ ((iI ((xs (i + 1)).toInt)).toInt64 <<< ((iI 32).toInt64 &&& 63) ||| (iI ((xs (i + 2)).toInt)).toInt64 &&& 4294967295) = lN x := ⟨_, BitVec.isLt _, lN_ofbv _⟩
  obtain ⟨d1, mc, ms, d2, e1, e2, e3, e4, K1, C1, hC⟩ := p_put hI hx64
  obtain ⟨fs1, hA0⟩ := INV_0 hI
  refine JL_aload_n (pc1 := 444) rfl (i := 1) rfl dL_law_443 rfl ?_
  refine JL_aload_n (pc1 := 445) rfl (i := 0) rfl dL_law_444 rfl ?_
  refine JL_iload_n (pc1 := 446) rfl (i := 3) rfl dL_law_445 rfl ?_
  refine JL_iconst (pc1 := 447) dL_law_446 rfl ?_
  refine JL_iadd (pc1 := 448) dL_law_447 rfl ?_
  refine JL_sld (pc1 := 449) (v := iI (xs (i + 1)).toInt) dL_law_448 rfl (by omega) (by omega) (by omega) (by rw [iI_of, show ((i : Int) + 1).toNat = i + 1 by omega]) ?_
  refine JL_i2l (pc1 := 450) dL_law_449 rfl ?_
  refine JL_bipush (pc1 := 452) (by decide) dL_law_450 rfl ?_
  refine JL_lshl (pc1 := 453) rfl dL_law_452 rfl ?_
  refine JL_aload_n (pc1 := 454) rfl (i := 0) rfl dL_law_453 rfl ?_
  refine JL_iload_n (pc1 := 455) rfl (i := 3) rfl dL_law_454 rfl ?_
  refine JL_iconst (pc1 := 456) dL_law_455 rfl ?_
  refine JL_iadd (pc1 := 457) dL_law_456 rfl ?_
  refine JL_sld (pc1 := 458) (v := iI (xs (i + 2)).toInt) dL_law_457 rfl (by omega) (by omega) (by omega) (by rw [iI_of, show ((i : Int) + 2).toNat = i + 2 by omega]) ?_
  refine JL_i2l (pc1 := 459) dL_law_458 rfl ?_
  refine JL_ldc2 (pc1 := 462) lq_L_68 dL_law_459 rfl ?_
  refine JL_land (pc1 := 463) dL_law_462 rfl ?_
  refine JL_lor (pc1 := 464) dL_law_463 rfl ?_
  refine JL_st (st1 := [.long (lN x), .ref (A 0)]) (by rw [← hx]) ?_
  refine JL_callV (pc1 := 467) (As := [.long (lN x)]) gv_L_70 yv_X9_put (ci := 9) rfl C1 dL_law_464 rfl hA0 rfl rfl (by omega) (by decide) (by omega) (by omega) (Nat.le_of_ble_eq_true rfl) (fun r T hr => ?_)
  obtain ⟨z, rfl, ⟨fs2, hB0⟩, K2, C2, hD⟩ := hC r T hr
  refine JL_st (st1 := [.int (iI z)]) rfl ?_
  refine JL_aload_n (pc1 := 468) rfl (i := 2) rfl dL_law_467 rfl ?_
  refine JL_aload_n (pc1 := 469) rfl (i := 0) rfl dL_law_468 rfl ?_
  refine JL_iload_n (pc1 := 470) rfl (i := 3) rfl dL_law_469 rfl ?_
  refine JL_iconst (pc1 := 471) dL_law_470 rfl ?_
  refine JL_iadd (pc1 := 472) dL_law_471 rfl ?_
  refine JL_sld (pc1 := 473) (v := iI (xs (i + 1)).toInt) dL_law_472 rfl (by omega) (by omega) (by omega) (by rw [iI_of, show ((i : Int) + 1).toNat = i + 1 by omega]) ?_
  refine JL_i2l (pc1 := 474) dL_law_473 rfl ?_
  refine JL_bipush (pc1 := 476) (by decide) dL_law_474 rfl ?_
  refine JL_lshl (pc1 := 477) rfl dL_law_476 rfl ?_
  refine JL_aload_n (pc1 := 478) rfl (i := 0) rfl dL_law_477 rfl ?_
  refine JL_iload_n (pc1 := 479) rfl (i := 3) rfl dL_law_478 rfl ?_
  refine JL_iconst (pc1 := 480) dL_law_479 rfl ?_
  refine JL_iadd (pc1 := 481) dL_law_480 rfl ?_
  refine JL_sld (pc1 := 482) (v := iI (xs (i + 2)).toInt) dL_law_481 rfl (by omega) (by omega) (by omega) (by rw [iI_of, show ((i : Int) + 2).toNat = i + 2 by omega]) ?_
  refine JL_i2l (pc1 := 483) dL_law_482 rfl ?_
  refine JL_ldc2 (pc1 := 486) lq_L_68 dL_law_483 rfl ?_
  refine JL_land (pc1 := 487) dL_law_486 rfl ?_
  refine JL_lor (pc1 := 488) dL_law_487 rfl ?_
  refine JL_st (st1 := [.long (lN x), .ref (B 0), .int (iI z)]) (by rw [← hx]) ?_
  refine JL_callV (pc1 := 491) (As := [.long (lN x)]) gv_L_74 yv_X10_put (ci := 10) rfl C2 dL_law_488 rfl hB0 rfl rfl (by omega) (by decide) (by omega) (by omega) (Nat.le_of_ble_eq_true rfl) (fun r2 U hr2 => ?_)
  obtain ⟨rfl, hU⟩ := hD r2 U hr2
  refine JL_st (st1 := [.int (iI z), .int (iI z)]) rfl ?_
  refine JL_same (tgt := 581) dL_law_491 rfl ?_
  exact JL_widen (by omega) (by omega) (k U hU)
set_option maxRecDepth 20000 in
theorem ca_wipe {S : pS} {i c s : Nat} (hI : INV A B S) (hi : i + 3 ≤ nS) (hn : nS ≤ 1536) (hc : c + 28 ≤ 600000) (hs : s + 9121 ≤ 7302250) (k : ∀ U, INV A B U → JdL bS nS xs yL_law cL_law 4 (some .boolean) 20 600000 7302250 K (c + 28) (s + 9121) U 581 [some (.ref bS), some (.ref (A 0)), some (.ref (B 0)), some (.int (iI (i : Int)))] []) : JdL bS nS xs yL_law cL_law 4 (some .boolean) 20 600000 7302250 K c s S 496 [some (.ref bS), some (.ref (A 0)), some (.ref (B 0)), some (.int (iI (i : Int)))] [] := by
  obtain ⟨d1, mc, ms, d2, e1, e2, e3, e4, K1, C1, hC⟩ := p_wipe hI
  obtain ⟨fs1, hA0⟩ := INV_0 hI
  refine JL_aload_n (pc1 := 497) rfl (i := 1) rfl dL_law_496 rfl ?_
  refine JL_callV (pc1 := 500) (As := []) gv_L_75 yv_X9_wipe (ci := 9) rfl C1 dL_law_497 rfl hA0 rfl rfl (by omega) (by decide) (by omega) (by omega) (Nat.le_of_ble_eq_true rfl) (fun r T hr => ?_)
  obtain ⟨z, rfl, ⟨fs2, hB0⟩, K2, C2, hD⟩ := hC r T hr
  refine JL_st (st1 := [.int (iI z)]) rfl ?_
  refine JL_aload_n (pc1 := 501) rfl (i := 2) rfl dL_law_500 rfl ?_
  refine JL_callV (pc1 := 504) (As := []) gv_L_78 yv_X10_wipe (ci := 10) rfl C2 dL_law_501 rfl hB0 rfl rfl (by omega) (by decide) (by omega) (by omega) (Nat.le_of_ble_eq_true rfl) (fun r2 U hr2 => ?_)
  obtain ⟨rfl, hU⟩ := hD r2 U hr2
  refine JL_st (st1 := [.int (iI z), .int (iI z)]) rfl ?_
  refine JL_same (tgt := 581) dL_law_504 rfl ?_
  exact JL_widen (by omega) (by omega) (k U hU)
set_option maxRecDepth 20000 in
theorem ca_fault {S : pS} {i c s : Nat} (hI : INV A B S) (hi : i + 3 ≤ nS) (hn : nS ≤ 1536) (hc : c + 28 ≤ 600000) (hs : s + 9121 ≤ 7302250) (k : ∀ U, INV A B U → JdL bS nS xs yL_law cL_law 4 (some .boolean) 20 600000 7302250 K (c + 28) (s + 9121) U 581 [some (.ref bS), some (.ref (A 0)), some (.ref (B 0)), some (.int (iI (i : Int)))] []) : JdL bS nS xs yL_law cL_law 4 (some .boolean) 20 600000 7302250 K c s S 509 [some (.ref bS), some (.ref (A 0)), some (.ref (B 0)), some (.int (iI (i : Int)))] [] := by
  obtain ⟨d1, mc, ms, d2, e1, e2, e3, e4, K1, C1, hC⟩ := p_fault hI
  obtain ⟨fs1, hA0⟩ := INV_0 hI
  refine JL_aload_n (pc1 := 510) rfl (i := 1) rfl dL_law_509 rfl ?_
  refine JL_callV (pc1 := 513) (As := []) gv_L_79 yv_X9_fault (ci := 9) rfl C1 dL_law_510 rfl hA0 rfl rfl (by omega) (by decide) (by omega) (by omega) (Nat.le_of_ble_eq_true rfl) (fun r T hr => ?_)
  obtain ⟨z, rfl, ⟨fs2, hB0⟩, K2, C2, hD⟩ := hC r T hr
  refine JL_st (st1 := [.int (iI z)]) rfl ?_
  refine JL_aload_n (pc1 := 514) rfl (i := 2) rfl dL_law_513 rfl ?_
  refine JL_callV (pc1 := 517) (As := []) gv_L_82 yv_X10_fault (ci := 10) rfl C2 dL_law_514 rfl hB0 rfl rfl (by omega) (by decide) (by omega) (by omega) (Nat.le_of_ble_eq_true rfl) (fun r2 U hr2 => ?_)
  obtain ⟨rfl, hU⟩ := hD r2 U hr2
  refine JL_st (st1 := [.int (iI z), .int (iI z)]) rfl ?_
  refine JL_same (tgt := 581) dL_law_517 rfl ?_
  exact JL_widen (by omega) (by omega) (k U hU)
set_option maxRecDepth 20000 in
theorem ca_undo {S : pS} {i c s : Nat} (hI : INV A B S) (hi : i + 3 ≤ nS) (hn : nS ≤ 1536) (hc : c + 28 ≤ 600000) (hs : s + 9121 ≤ 7302250) (k : ∀ U, INV A B U → JdL bS nS xs yL_law cL_law 4 (some .boolean) 20 600000 7302250 K (c + 28) (s + 9121) U 581 [some (.ref bS), some (.ref (A 0)), some (.ref (B 0)), some (.int (iI (i : Int)))] []) : JdL bS nS xs yL_law cL_law 4 (some .boolean) 20 600000 7302250 K c s S 522 [some (.ref bS), some (.ref (A 0)), some (.ref (B 0)), some (.int (iI (i : Int)))] [] := by
  obtain ⟨d1, mc, ms, d2, e1, e2, e3, e4, K1, C1, hC⟩ := p_undo hI
  obtain ⟨fs1, hA0⟩ := INV_0 hI
  refine JL_aload_n (pc1 := 523) rfl (i := 1) rfl dL_law_522 rfl ?_
  refine JL_callV (pc1 := 526) (As := []) gv_L_83 yv_X9_undo (ci := 9) rfl C1 dL_law_523 rfl hA0 rfl rfl (by omega) (by decide) (by omega) (by omega) (Nat.le_of_ble_eq_true rfl) (fun r T hr => ?_)
  obtain ⟨z, rfl, ⟨fs2, hB0⟩, K2, C2, hD⟩ := hC r T hr
  refine JL_st (st1 := [.int (iI z)]) rfl ?_
  refine JL_aload_n (pc1 := 527) rfl (i := 2) rfl dL_law_526 rfl ?_
  refine JL_callV (pc1 := 530) (As := []) gv_L_86 yv_X10_undo (ci := 10) rfl C2 dL_law_527 rfl hB0 rfl rfl (by omega) (by decide) (by omega) (by omega) (Nat.le_of_ble_eq_true rfl) (fun r2 U hr2 => ?_)
  obtain ⟨rfl, hU⟩ := hD r2 U hr2
  refine JL_st (st1 := [.int (iI z), .int (iI z)]) rfl ?_
  refine JL_same (tgt := 581) dL_law_530 rfl ?_
  exact JL_widen (by omega) (by omega) (k U hU)
set_option maxRecDepth 20000 in
theorem ca_save {S : pS} {i c s : Nat} (hI : INV A B S) (hi : i + 3 ≤ nS) (hn : nS ≤ 1536) (hc : c + 28 ≤ 600000) (hs : s + 9121 ≤ 7302250) (k : ∀ U, INV A B U → JdL bS nS xs yL_law cL_law 4 (some .boolean) 20 600000 7302250 K (c + 28) (s + 9121) U 581 [some (.ref bS), some (.ref (A 0)), some (.ref (B 0)), some (.int (iI (i : Int)))] []) : JdL bS nS xs yL_law cL_law 4 (some .boolean) 20 600000 7302250 K c s S 535 [some (.ref bS), some (.ref (A 0)), some (.ref (B 0)), some (.int (iI (i : Int)))] [] := by
  obtain ⟨d1, mc, ms, d2, e1, e2, e3, e4, K1, C1, hC⟩ := p_save hI (s := (xs (i + 1)).toInt) (i32_b _)
  obtain ⟨fs1, hA0⟩ := INV_0 hI
  refine JL_aload_n (pc1 := 536) rfl (i := 1) rfl dL_law_535 rfl ?_
  refine JL_aload_n (pc1 := 537) rfl (i := 0) rfl dL_law_536 rfl ?_
  refine JL_iload_n (pc1 := 538) rfl (i := 3) rfl dL_law_537 rfl ?_
  refine JL_iconst (pc1 := 539) dL_law_538 rfl ?_
  refine JL_iadd (pc1 := 540) dL_law_539 rfl ?_
  refine JL_sld (pc1 := 541) (v := iI (xs (i + 1)).toInt) dL_law_540 rfl (by omega) (by omega) (by omega) (by rw [iI_of, show ((i : Int) + 1).toNat = i + 1 by omega]) ?_
  refine JL_callV (pc1 := 544) (As := [.int (iI ((xs (i + 1)).toInt))]) gv_L_87 yv_X9_save (ci := 9) rfl C1 dL_law_541 rfl hA0 rfl rfl (by omega) (by decide) (by omega) (by omega) (Nat.le_of_ble_eq_true rfl) (fun r T hr => ?_)
  obtain ⟨z, rfl, ⟨fs2, hB0⟩, K2, C2, hD⟩ := hC r T hr
  refine JL_st (st1 := [.int (iI z)]) rfl ?_
  refine JL_aload_n (pc1 := 545) rfl (i := 2) rfl dL_law_544 rfl ?_
  refine JL_aload_n (pc1 := 546) rfl (i := 0) rfl dL_law_545 rfl ?_
  refine JL_iload_n (pc1 := 547) rfl (i := 3) rfl dL_law_546 rfl ?_
  refine JL_iconst (pc1 := 548) dL_law_547 rfl ?_
  refine JL_iadd (pc1 := 549) dL_law_548 rfl ?_
  refine JL_sld (pc1 := 550) (v := iI (xs (i + 1)).toInt) dL_law_549 rfl (by omega) (by omega) (by omega) (by rw [iI_of, show ((i : Int) + 1).toNat = i + 1 by omega]) ?_
  refine JL_callV (pc1 := 553) (As := [.int (iI ((xs (i + 1)).toInt))]) gv_L_90 yv_X10_save (ci := 10) rfl C2 dL_law_550 rfl hB0 rfl rfl (by omega) (by decide) (by omega) (by omega) (Nat.le_of_ble_eq_true rfl) (fun r2 U hr2 => ?_)
  obtain ⟨rfl, hU⟩ := hD r2 U hr2
  refine JL_st (st1 := [.int (iI z), .int (iI z)]) rfl ?_
  refine JL_same (tgt := 581) dL_law_553 rfl ?_
  exact JL_widen (by omega) (by omega) (k U hU)
set_option maxRecDepth 20000 in
theorem ca_restore {S : pS} {i c s : Nat} (hI : INV A B S) (hi : i + 3 ≤ nS) (hn : nS ≤ 1536) (hc : c + 28 ≤ 600000) (hs : s + 9121 ≤ 7302250) (k : ∀ U, INV A B U → JdL bS nS xs yL_law cL_law 4 (some .boolean) 20 600000 7302250 K (c + 28) (s + 9121) U 581 [some (.ref bS), some (.ref (A 0)), some (.ref (B 0)), some (.int (iI (i : Int)))] []) : JdL bS nS xs yL_law cL_law 4 (some .boolean) 20 600000 7302250 K c s S 558 [some (.ref bS), some (.ref (A 0)), some (.ref (B 0)), some (.int (iI (i : Int)))] [] := by
  obtain ⟨d1, mc, ms, d2, e1, e2, e3, e4, K1, C1, hC⟩ := p_restore hI (s := (xs (i + 1)).toInt) (i32_b _)
  obtain ⟨fs1, hA0⟩ := INV_0 hI
  refine JL_aload_n (pc1 := 559) rfl (i := 1) rfl dL_law_558 rfl ?_
  refine JL_aload_n (pc1 := 560) rfl (i := 0) rfl dL_law_559 rfl ?_
  refine JL_iload_n (pc1 := 561) rfl (i := 3) rfl dL_law_560 rfl ?_
  refine JL_iconst (pc1 := 562) dL_law_561 rfl ?_
  refine JL_iadd (pc1 := 563) dL_law_562 rfl ?_
  refine JL_sld (pc1 := 564) (v := iI (xs (i + 1)).toInt) dL_law_563 rfl (by omega) (by omega) (by omega) (by rw [iI_of, show ((i : Int) + 1).toNat = i + 1 by omega]) ?_
  refine JL_callV (pc1 := 567) (As := [.int (iI ((xs (i + 1)).toInt))]) gv_L_91 yv_X9_restore (ci := 9) rfl C1 dL_law_564 rfl hA0 rfl rfl (by omega) (by decide) (by omega) (by omega) (Nat.le_of_ble_eq_true rfl) (fun r T hr => ?_)
  obtain ⟨z, rfl, ⟨fs2, hB0⟩, K2, C2, hD⟩ := hC r T hr
  refine JL_st (st1 := [.int (iI z)]) rfl ?_
  refine JL_aload_n (pc1 := 568) rfl (i := 2) rfl dL_law_567 rfl ?_
  refine JL_aload_n (pc1 := 569) rfl (i := 0) rfl dL_law_568 rfl ?_
  refine JL_iload_n (pc1 := 570) rfl (i := 3) rfl dL_law_569 rfl ?_
  refine JL_iconst (pc1 := 571) dL_law_570 rfl ?_
  refine JL_iadd (pc1 := 572) dL_law_571 rfl ?_
  refine JL_sld (pc1 := 573) (v := iI (xs (i + 1)).toInt) dL_law_572 rfl (by omega) (by omega) (by omega) (by rw [iI_of, show ((i : Int) + 1).toNat = i + 1 by omega]) ?_
  refine JL_callV (pc1 := 576) (As := [.int (iI ((xs (i + 1)).toInt))]) gv_L_94 yv_X10_restore (ci := 10) rfl C2 dL_law_573 rfl hB0 rfl rfl (by omega) (by decide) (by omega) (by omega) (Nat.le_of_ble_eq_true rfl) (fun r2 U hr2 => ?_)
  obtain ⟨rfl, hU⟩ := hD r2 U hr2
  refine JL_st (st1 := [.int (iI z), .int (iI z)]) rfl ?_
  refine JL_same (tgt := 581) dL_law_576 rfl ?_
  exact JL_widen (by omega) (by omega) (k U hU)
set_option maxHeartbeats 1000000 in
set_option maxRecDepth 20000 in
theorem law_loop (hn : nS ≤ 1536) (hK : ∀ S, K (some (.int (iI 1))) S) : ∀ (r k : Nat) {S : pS}, k + r = 512 → INV A B S → JdL bS nS xs yL_law cL_law 4 (some .boolean) 20 600000 7302250 K (33 + 28 * k) (21058 + 9121 * k) S 18 [some (.ref bS), some (.ref (A 0)), some (.ref (B 0)), some (.int (iI ((3 * k : Nat) : Int)))] [] := by
  intro r
  induction r with
  | zero =>
    intro k S hk hI
    refine JL_iload_n (pc1 := 19) rfl (i := 3) rfl dL_law_18 rfl ?_
    refine JL_aload_n (pc1 := 20) rfl (i := 0) rfl dL_law_19 rfl ?_
    refine JL_slen (pc1 := 21) dL_law_20 rfl ?_
    refine JL_iconst (pc1 := 22) dL_law_21 rfl ?_
    refine JL_isub (pc1 := 23) dL_law_22 rfl ?_
    refine JL_icmp_gt (pc1 := 26) (tgt := 587) (by omega) (by omega) (by omega) (by omega) dL_law_23 rfl rfl (fun _ => ?_) (fun hz => absurd (by omega) hz)
    refine JL_iconst (pc1 := 588) dL_law_587 rfl ?_
    exact JL_iret rfl rfl dL_law_588 (by omega) (by omega) (hK S)
  | succ r ih =>
    intro k S hk hI
    refine JL_iload_n (pc1 := 19) rfl (i := 3) rfl dL_law_18 rfl ?_
    refine JL_aload_n (pc1 := 20) rfl (i := 0) rfl dL_law_19 rfl ?_
    refine JL_slen (pc1 := 21) dL_law_20 rfl ?_
    refine JL_iconst (pc1 := 22) dL_law_21 rfl ?_
    refine JL_isub (pc1 := 23) dL_law_22 rfl ?_
    refine JL_icmp_gt (pc1 := 26) (tgt := 587) (by omega) (by omega) (by omega) (by omega) dL_law_23 rfl rfl (fun _ => ?_) (fun hz => ?_)
    · refine JL_iconst (pc1 := 588) dL_law_587 rfl ?_
      exact JL_iret rfl rfl dL_law_588 (by omega) (by omega) (hK S)
    have hi : 3 * k + 3 ≤ nS := by omega
    have kont : ∀ U, INV A B U → JdL bS nS xs yL_law cL_law 4 (some .boolean) 20 600000 7302250 K ((33 + 28 * k) + 28) ((21058 + 9121 * k) + 9121) U 581 [some (.ref bS), some (.ref (A 0)), some (.ref (B 0)), some (.int (iI ((3 * k : Nat) : Int)))] [] := fun U hU => by
      refine JL_iinc (pc1 := 584) (L1 := [some (.ref bS), some (.ref (A 0)), some (.ref (B 0)), some (.int (iI ((3 * (k + 1) : Nat) : Int)))]) dL_law_581 rfl rfl (by decide) rfl (by rw [show ((3 * k : Nat) : Int) + 3 = ((3 * (k + 1) : Nat) : Int) by omega]; rfl) ?_
      refine JL_goto (tgt := 18) dL_law_584 rfl ?_
      refine JL_c (c1 := (33 + 28 * (k + 1))) (s1 := (21058 + 9121 * (k + 1))) (by omega) (by omega) ?_
      exact ih (k + 1) (by omega) hU
    refine JL_aload_n (pc1 := 27) rfl (i := 0) rfl dL_law_26 rfl ?_
    refine JL_iload_n (pc1 := 28) rfl (i := 3) rfl dL_law_27 rfl ?_
    refine JL_sld (pc1 := 29) dL_law_28 rfl (by omega) (by omega) (by omega) rfl ?_
    refine JL_bipush (pc1 := 31) (by decide) dL_law_29 rfl ?_
    refine JL_iand (pc1 := 32) dL_law_31 rfl ?_
    obtain ⟨w, hw⟩ : ∃ w : Int, w = (xs ((3 * k : Nat) : Int).toNat &&& iI 31).toInt := ⟨_, rfl⟩
    have hwb := i32_b (xs ((3 * k : Nat) : Int).toNat &&& iI 31)
    rw [← hw] at hwb
    refine JL_st (st1 := [.int (iI w)]) (by rw [hw, iI_of]) ?_
    rcases (show w = 0 ∨ w = 1 ∨ w = 2 ∨ w = 3 ∨ w = 4 ∨ w = 5 ∨ w = 6 ∨ w = 7 ∨ w = 8 ∨ w = 9 ∨ w = 10 ∨ w = 11 ∨ w = 12 ∨ w = 13 ∨ w = 14 ∨ w = 15 ∨ w = 16 ∨ w = 17 ∨ w = 18 ∨ (w < 0 ∨ 18 < w) by omega) with e | e | e | e | e | e | e | e | e | e | e | e | e | e | e | e | e | e | e | e
    · rw [e]
      refine JL_tableIn (tgt := 124) (by decide) (by decide) dL_law_32 (by decide) (by decide) rfl rfl ?_
      exact ca_set hI hi hn (by omega) (by omega) kont
    · rw [e]
      refine JL_tableIn (tgt := 157) (by decide) (by decide) dL_law_32 (by decide) (by decide) rfl rfl ?_
      exact ca_begin hI hi hn (by omega) (by omega) kont
    · rw [e]
      refine JL_tableIn (tgt := 190) (by decide) (by decide) dL_law_32 (by decide) (by decide) rfl rfl ?_
      exact ca_round hI hi hn (by omega) (by omega) kont
    · rw [e]
      refine JL_tableIn (tgt := 223) (by decide) (by decide) dL_law_32 (by decide) (by decide) rfl rfl ?_
      exact ca_play hI hi hn (by omega) (by omega) kont
    · rw [e]
      refine JL_tableIn (tgt := 236) (by decide) (by decide) dL_law_32 (by decide) (by decide) rfl rfl ?_
      exact ca_run hI hi hn (by omega) (by omega) kont
    · rw [e]
      refine JL_tableIn (tgt := 249) (by decide) (by decide) dL_law_32 (by decide) (by decide) rfl rfl ?_
      exact ca_player hI hi hn (by omega) (by omega) kont
    · rw [e]
      refine JL_tableIn (tgt := 282) (by decide) (by decide) dL_law_32 (by decide) (by decide) rfl rfl ?_
      exact ca_count hI hi hn (by omega) (by omega) kont
    · rw [e]
      refine JL_tableIn (tgt := 305) (by decide) (by decide) dL_law_32 (by decide) (by decide) rfl rfl ?_
      exact ca_forced hI hi hn (by omega) (by omega) kont
    · rw [e]
      refine JL_tableIn (tgt := 338) (by decide) (by decide) dL_law_32 (by decide) (by decide) rfl rfl ?_
      exact ca_ahead hI hi hn (by omega) (by omega) kont
    · rw [e]
      refine JL_tableIn (tgt := 371) (by decide) (by decide) dL_law_32 (by decide) (by decide) rfl rfl ?_
      exact ca_bestBid hI hi hn (by omega) (by omega) kont
    · rw [e]
      refine JL_tableIn (tgt := 384) (by decide) (by decide) dL_law_32 (by decide) (by decide) rfl rfl ?_
      exact ca_bestAnswer hI hi hn (by omega) (by omega) kont
    · rw [e]
      refine JL_tableIn (tgt := 407) (by decide) (by decide) dL_law_32 (by decide) (by decide) rfl rfl ?_
      exact ca_keeps hI hi hn (by omega) (by omega) kont
    · rw [e]
      refine JL_tableIn (tgt := 420) (by decide) (by decide) dL_law_32 (by decide) (by decide) rfl rfl ?_
      exact ca_leastHours hI hi hn (by omega) (by omega) kont
    · rw [e]
      refine JL_tableIn (tgt := 443) (by decide) (by decide) dL_law_32 (by decide) (by decide) rfl rfl ?_
      exact ca_put hI hi hn (by omega) (by omega) kont
    · rw [e]
      refine JL_tableIn (tgt := 496) (by decide) (by decide) dL_law_32 (by decide) (by decide) rfl rfl ?_
      exact ca_wipe hI hi hn (by omega) (by omega) kont
    · rw [e]
      refine JL_tableIn (tgt := 509) (by decide) (by decide) dL_law_32 (by decide) (by decide) rfl rfl ?_
      exact ca_fault hI hi hn (by omega) (by omega) kont
    · rw [e]
      refine JL_tableIn (tgt := 522) (by decide) (by decide) dL_law_32 (by decide) (by decide) rfl rfl ?_
      exact ca_undo hI hi hn (by omega) (by omega) kont
    · rw [e]
      refine JL_tableIn (tgt := 535) (by decide) (by decide) dL_law_32 (by decide) (by decide) rfl rfl ?_
      exact ca_save hI hi hn (by omega) (by omega) kont
    · rw [e]
      refine JL_tableIn (tgt := 558) (by decide) (by decide) dL_law_32 (by decide) (by decide) rfl rfl ?_
      exact ca_restore hI hi hn (by omega) (by omega) kont
    · refine JL_tableOut (tgt := 581) (by omega) (by omega) dL_law_32 e rfl ?_
      exact JL_widen (by omega) (by omega) (kont S hI)
end LAW
section LAW2
variable {bS nS : Nat} {xs : Nat → Int32} {K : Option Value → pS → Prop}
set_option maxHeartbeats 1000000 in
set_option maxRecDepth 20000 in
theorem law_all (hn : nS ≤ 1536) (hK : ∀ S, K (some (.int (iI 1))) S) : JdL bS nS xs yL_law cL_law 4 (some .boolean) 20 600000 7302250 K 0 0 (fun _ => none) 0 [some (.ref bS), none, none, none] [] := by
  refine JL_new (pc1 := 3) (fs := [.null, .null, .null, .null, .null, .null, .null, .null]) inUX9 (ci := 9) rfl tyX9 tyX9_ok ll_L_7 lt_X9 ln_X9 df_X9 dL_law_0 rfl (by omega) (by omega) (fun a na => ?_)
  refine JL_dup (pc1 := 4) rfl dL_law_3 rfl ?_
  refine JL_callI (pc1 := 7) (As := []) (good_C lc_X9_init) yv_X9_init ln_X9 lm_L_9 li_X9_init (c_X9_init (pu_self _ _ _)) dL_law_4 rfl rfl rfl (by omega) (by decide) (by omega) (by omega) (Nat.le_of_ble_eq_true rfl) (fun r T hT => ?_)
  obtain ⟨rfl, A, a0, hXS, n6, fr⟩ := hT
  refine JL_st (st1 := [.ref a]) rfl ?_
  rw [← a0]
  refine JL_astore_n (pc1 := 8) (L1 := [some (.ref bS), some (.ref (A 0)), none, none]) rfl (i := 1) dL_law_7 rfl (by decide) rfl rfl ?_
  refine JL_new (pc1 := 11) (fs := [.null, .null, .int (iI 0), .null, .null, .null, .int (iI 0), .int (iI 0), .int (iI 0), .null, .int (iI 0), .int (iI 0), .int (iI 0), .null, .int (iI 0)]) inUX10 (ci := 10) rfl tyX10 tyX10_ok ll_L_10 lt_X10 ln_X10 df_X10 dL_law_8 rfl (by omega) (by omega) (fun b nb => ?_)
  refine JL_dup (pc1 := 12) rfl dL_law_11 rfl ?_
  refine JL_callI (pc1 := 15) (As := []) (good_C lc_X10_init) yv_X10_init ln_X10 lm_L_12 li_X10_init (c_X10_init (pu_self _ _ _)) dL_law_12 rfl rfl rfl (by omega) (by decide) (by omega) (by omega) (Nat.le_of_ble_eq_true rfl) (fun r U hU => ?_)
  obtain ⟨rfl, B, b0, hMS, nB, fr2⟩ := hU
  refine JL_st (st1 := [.ref b]) rfl ?_
  have hne : ∀ a e, T a = some e → a ≠ b := fun a e he z => by rw [z, nb] at he; cases he
  have keep : ∀ a e, T a = some e → U a = T a := fun a e he => by
    have h1 : pu T b (oO 10 [.null, .null, .int (iI 0), .null, .null, .null, .int (iI 0), .int (iI 0), .int (iI 0), .null, .int (iI 0), .int (iI 0), .int (iI 0), .null, .int (iI 0)]) a = T a := pu_ne _ _ (hne a e he)
    exact (fr2 a (by rw [h1, he]; exact fun z => by cases z) (hne a e he)).trans h1
  have hX := hXS (RB A B) (fun _ => zeF)
  have hI : INV A B U := by
    refine ⟨zeF, zeF, zeF, 0, 0, 0, fun _ => zeF, fun _ => 0, 0, XS_gen hX (fun ha _ => keep _ _ ha) (fun ha _ => keep _ _ ha) (fun ha => keep _ _ ha), hMS _, ⟨okF_ze, Or.inl rfl, Or.inl rfl, fun z => absurd z (by decide), fun z => absurd z (by decide), Nat.zero_le _, fun i hi => absurd hi (Nat.not_lt_zero i)⟩, fun z => ?_⟩
    have h1 := (XS_pad hX).1
    have h2 := nB 6 (by decide) (by decide)
    rw [← z, pu_ne _ _ (hne _ _ h1), h1] at h2
    cases h2
  rw [← b0]
  refine JL_astore_n (pc1 := 16) (L1 := [some (.ref bS), some (.ref (A 0)), some (.ref (B 0)), none]) rfl (i := 2) dL_law_15 rfl (by decide) rfl rfl ?_
  refine JL_iconst (pc1 := 17) dL_law_16 rfl ?_
  refine JL_istore_n (pc1 := 18) (L1 := [some (.ref bS), some (.ref (A 0)), some (.ref (B 0)), some (.int (iI ((3 * 0 : Nat) : Int)))]) rfl (i := 3) dL_law_17 rfl (by decide) rfl rfl ?_
  exact law_loop hn hK 512 0 rfl hI
end LAW2
