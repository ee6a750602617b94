section LW20
variable {G : Gx} {sc : Nat → Nat → Prop} {b Ln : Nat} {xs : Nat → Int32} {x n n' i d : Nat} {S S' : Nat → Nat × Nat} {M M' M2 : Nat → Nat → Int32} {L : Nat → Nat → Int64} {P P' : Nat → Nat → Option Nat} {A A' : Abs}

set_option maxHeartbeats 4000000 in
set_option maxRecDepth 100000 in
theorem lw_set (hI : LINV x n S M P A) (hL : Ln ≤ 3072) (hi : i + 6 ≤ Ln) (kend : ∀ (n : Nat) (S : Nat → Nat × Nat) (M : Nat → Nat → Int32) (L : Nat → Nat → Int64) (P : Nat → Nat → Option Nat) (A : Abs), LINV x n S M P A → LL G (lsc x) b Ln xs (6 * d) (12 * d) 1103 [(3, .int (nI i)), (2, .ref (x + 75)), (1, .ref x), (0, .ref b)] [] (n, S, M, L, P)) : LL G (lsc x) b Ln xs (6 * (d + 1)) (12 * (d + 1)) 164 [(3, .int (nI i)), (2, .ref (x + 75)), (1, .ref x), (0, .ref b)] [] (n, S, M, L, P) := by
  obtain ⟨hC, hA, hR, hr, hg3, hn⟩ := id hI
  have hg2 : RNG2 A := hg3.1
  have hg : RNG A := hg2.1
  refine LL_aload_n dL_law_164 rfl rfl ?_
  refine LL_aload_n dL_law_165 rfl rfl ?_
  refine LL_iload_n dL_law_166 rfl rfl ?_
  refine LL_iconst (v := 1) dL_law_167 rfl ?_
  refine LL_iadd dL_law_168 ?_
  refine LL_sld (j := i + 1) (nI_add i 1) (by omega) hL dL_law_169 ?_
  refine LL_aload_n dL_law_170 rfl rfl ?_
  refine LL_iload_n dL_law_171 rfl rfl ?_
  refine LL_iconst (v := 2) dL_law_172 rfl ?_
  refine LL_iadd dL_law_173 ?_
  refine LL_sld (j := i + 2) (nI_add i 2) (by omega) hL dL_law_174 ?_
  refine LL_aload_n dL_law_175 rfl rfl ?_
  refine LL_iload_n dL_law_176 rfl rfl ?_
  refine LL_iconst (v := 3) dL_law_177 rfl ?_
  refine LL_iadd dL_law_178 ?_
  refine LL_sld (j := i + 3) (nI_add i 3) (by omega) hL dL_law_179 ?_
  refine LL_callV (kc' := 6 * (d + 1)) (ks' := 12 * (d + 1)) (rest := []) (congrArg Prod.fst (hC.sh (t := 0) (k := 12) (m := 0) (by decide))) (rfl : vwCl[11]? = some (RX11, TX11, 19)) rfl (kc_set hA hg2 hC lsc_c) (by decide) mi_X11_set lk_L_13 rfl (Nat.le_of_ble_eq_true rfl) rfl rfl dL_law_180 ?_
  intro v1 μ1 h1
  obtain ⟨rfl, n1, S1, M1, L1, P1, rfl, hn0, hS1, hC1, hA1, hM1, hP1⟩ := h1
  obtain ⟨hR1, hr1, hn1⟩ := lw_mid hI hn0 hS1 hM1 hP1
  refine LL_r1 ?_
  refine LL_aload_n dL_law_183 rfl rfl ?_
  refine LL_aload_n dL_law_184 rfl rfl ?_
  refine LL_iload_n dL_law_185 rfl rfl ?_
  refine LL_iconst (v := 1) dL_law_186 rfl ?_
  refine LL_iadd dL_law_187 ?_
  refine LL_sld (j := i + 1) (nI_add i 1) (by omega) hL dL_law_188 ?_
  refine LL_aload_n dL_law_189 rfl rfl ?_
  refine LL_iload_n dL_law_190 rfl rfl ?_
  refine LL_iconst (v := 2) dL_law_191 rfl ?_
  refine LL_iadd dL_law_192 ?_
  refine LL_sld (j := i + 2) (nI_add i 2) (by omega) hL dL_law_193 ?_
  refine LL_aload_n dL_law_194 rfl rfl ?_
  refine LL_iload_n dL_law_195 rfl rfl ?_
  refine LL_iconst (v := 3) dL_law_196 rfl ?_
  refine LL_iadd dL_law_197 ?_
  refine LL_sld (j := i + 3) (nI_add i 3) (by omega) hL dL_law_198 ?_
  refine LL_callV (kc' := 6 * (d + 1)) (ks' := 12 * (d + 1)) (rest := [.int (zr_set A (xs (i + 1)) (xs (i + 2)) (xs (i + 3))).1]) hR1.1 (rfl : vwCl[12]? = some (RX12, TX12, 51)) rfl (kr_set hr1 hg hR1 lsc_r) (by decide) mi_X12_set lk_L_17 rfl (Nat.le_of_ble_eq_true rfl) rfl rfl dL_law_199 ?_
  intro v2 μ2 h2
  obtain ⟨rfl, M3, L3, rfl, hr2, hf⟩ := h2
  have hI2 : LINV x n1 S1 M3 P1 (zr_set A (xs (i + 1)) (xs (i + 2)) (xs (i + 3))).2 := lw_end hC1 hA1 hR1 hn1 hr2 hf (rng3_set hg3)
  refine LL_r1 ?_
  refine LL_icmp_eq (tgt := 1103) dL_law_202 (by decide) rfl ?_
  exact LL.fewer (by omega) (by omega) (kend _ _ _ _ _ _ hI2)
set_option maxHeartbeats 4000000 in
set_option maxRecDepth 100000 in
theorem lw_stroke (hI : LINV x n S M P A) (hL : Ln ≤ 3072) (hi : i + 6 ≤ Ln) (kend : ∀ (n : Nat) (S : Nat → Nat × Nat) (M : Nat → Nat → Int32) (L : Nat → Nat → Int64) (P : Nat → Nat → Option Nat) (A : Abs), LINV x n S M P A → LL G (lsc x) b Ln xs (6 * d) (12 * d) 1103 [(3, .int (nI i)), (2, .ref (x + 75)), (1, .ref x), (0, .ref b)] [] (n, S, M, L, P)) : LL G (lsc x) b Ln xs (6 * (d + 1)) (12 * (d + 1)) 207 [(3, .int (nI i)), (2, .ref (x + 75)), (1, .ref x), (0, .ref b)] [] (n, S, M, L, P) := by
  obtain ⟨hC, hA, hR, hr, hg3, hn⟩ := id hI
  have hg2 : RNG2 A := hg3.1
  have hg : RNG A := hg2.1
  refine LL_aload_n dL_law_207 rfl rfl ?_
  refine LL_aload_n dL_law_208 rfl rfl ?_
  refine LL_iload_n dL_law_209 rfl rfl ?_
  refine LL_iconst (v := 1) dL_law_210 rfl ?_
  refine LL_iadd dL_law_211 ?_
  refine LL_sld (j := i + 1) (nI_add i 1) (by omega) hL dL_law_212 ?_
  refine LL_aload_n dL_law_213 rfl rfl ?_
  refine LL_iload_n dL_law_214 rfl rfl ?_
  refine LL_iconst (v := 2) dL_law_215 rfl ?_
  refine LL_iadd dL_law_216 ?_
  refine LL_sld (j := i + 2) (nI_add i 2) (by omega) hL dL_law_217 ?_
  refine LL_aload_n dL_law_218 rfl rfl ?_
  refine LL_iload_n dL_law_219 rfl rfl ?_
  refine LL_iconst (v := 3) dL_law_220 rfl ?_
  refine LL_iadd dL_law_221 ?_
  refine LL_sld (j := i + 3) (nI_add i 3) (by omega) hL dL_law_222 ?_
  refine LL_callV (kc' := 6 * d + 5) (ks' := 12 * d + 10) (rest := []) (congrArg Prod.fst (hC.sh (t := 0) (k := 12) (m := 0) (by decide))) (rfl : vwCl[11]? = some (RX11, TX11, 19)) rfl (kc_stroke hn hA hg2 hC lsc_c) (by decide) mi_X11_stroke lk_L_18 rfl (Nat.le_of_ble_eq_true rfl) (by omega) (by omega) dL_law_223 ?_
  intro v1 μ1 h1
  obtain ⟨rfl, n1, S1, M1, L1, P1, rfl, hn0, hS1, hC1, hA1, hM1, hP1⟩ := h1
  obtain ⟨hR1, hr1, hn1⟩ := lw_mid hI hn0 hS1 hM1 hP1
  refine LL_r1 ?_
  refine LL_aload_n dL_law_226 rfl rfl ?_
  refine LL_aload_n dL_law_227 rfl rfl ?_
  refine LL_iload_n dL_law_228 rfl rfl ?_
  refine LL_iconst (v := 1) dL_law_229 rfl ?_
  refine LL_iadd dL_law_230 ?_
  refine LL_sld (j := i + 1) (nI_add i 1) (by omega) hL dL_law_231 ?_
  refine LL_aload_n dL_law_232 rfl rfl ?_
  refine LL_iload_n dL_law_233 rfl rfl ?_
  refine LL_iconst (v := 2) dL_law_234 rfl ?_
  refine LL_iadd dL_law_235 ?_
  refine LL_sld (j := i + 2) (nI_add i 2) (by omega) hL dL_law_236 ?_
  refine LL_aload_n dL_law_237 rfl rfl ?_
  refine LL_iload_n dL_law_238 rfl rfl ?_
  refine LL_iconst (v := 3) dL_law_239 rfl ?_
  refine LL_iadd dL_law_240 ?_
  refine LL_sld (j := i + 3) (nI_add i 3) (by omega) hL dL_law_241 ?_
  refine LL_callV (kc' := 6 * d + 5) (ks' := 12 * d + 10) (rest := [.int (zr_stroke A (xs (i + 1)) (xs (i + 2)) (xs (i + 3))).1]) hR1.1 (rfl : vwCl[12]? = some (RX12, TX12, 51)) rfl (kr_stroke hr1 hg hR1 lsc_r) (by decide) mi_X12_stroke lk_L_21 rfl (Nat.le_of_ble_eq_true rfl) rfl rfl dL_law_242 ?_
  intro v2 μ2 h2
  obtain ⟨rfl, M3, L3, rfl, hr2, hf⟩ := h2
  have hI2 : LINV x n1 S1 M3 P1 (zr_stroke A (xs (i + 1)) (xs (i + 2)) (xs (i + 3))).2 := lw_end hC1 hA1 hR1 hn1 hr2 hf (rng3_stroke hg3)
  refine LL_r1 ?_
  refine LL_icmp_eq (tgt := 1103) dL_law_245 (by decide) rfl ?_
  exact LL.fewer (by omega) (by omega) (kend _ _ _ _ _ _ hI2)
set_option maxHeartbeats 4000000 in
set_option maxRecDepth 100000 in
theorem lw_told (hI : LINV x n S M P A) (hL : Ln ≤ 3072) (hi : i + 6 ≤ Ln) (kend : ∀ (n : Nat) (S : Nat → Nat × Nat) (M : Nat → Nat → Int32) (L : Nat → Nat → Int64) (P : Nat → Nat → Option Nat) (A : Abs), LINV x n S M P A → LL G (lsc x) b Ln xs (6 * d) (12 * d) 1103 [(3, .int (nI i)), (2, .ref (x + 75)), (1, .ref x), (0, .ref b)] [] (n, S, M, L, P)) : LL G (lsc x) b Ln xs (6 * (d + 1)) (12 * (d + 1)) 250 [(3, .int (nI i)), (2, .ref (x + 75)), (1, .ref x), (0, .ref b)] [] (n, S, M, L, P) := by
  obtain ⟨hC, hA, hR, hr, hg3, hn⟩ := id hI
  have hg2 : RNG2 A := hg3.1
  have hg : RNG A := hg2.1
  refine LL_aload_n dL_law_250 rfl rfl ?_
  refine LL_aload_n dL_law_251 rfl rfl ?_
  refine LL_iload_n dL_law_252 rfl rfl ?_
  refine LL_iconst (v := 1) dL_law_253 rfl ?_
  refine LL_iadd dL_law_254 ?_
  refine LL_sld (j := i + 1) (nI_add i 1) (by omega) hL dL_law_255 ?_
  refine LL_aload_n dL_law_256 rfl rfl ?_
  refine LL_iload_n dL_law_257 rfl rfl ?_
  refine LL_iconst (v := 2) dL_law_258 rfl ?_
  refine LL_iadd dL_law_259 ?_
  refine LL_sld (j := i + 2) (nI_add i 2) (by omega) hL dL_law_260 ?_
  refine LL_callV (kc' := 6 * (d + 1)) (ks' := 12 * (d + 1)) (rest := []) (congrArg Prod.fst (hC.sh (t := 0) (k := 12) (m := 0) (by decide))) (rfl : vwCl[11]? = some (RX11, TX11, 19)) rfl (kc_told hA hg2 hC lsc_c) (by decide) mi_X11_told lk_L_22 rfl (Nat.le_of_ble_eq_true rfl) rfl rfl dL_law_261 ?_
  intro v1 μ1 h1
  obtain ⟨rfl, rfl⟩ := h1
  obtain ⟨hC1, hA1, hR1, hr1, hn1⟩ : CWF x S P ∧ cABS x n S P M A ∧ RWF (x + 75) S P ∧ rABS (x + 75) M A ∧ x + 94 ≤ n := ⟨hC, hA, hR, hr, hn⟩
  refine LL_r1 ?_
  refine LL_aload_n dL_law_264 rfl rfl ?_
  refine LL_aload_n dL_law_265 rfl rfl ?_
  refine LL_iload_n dL_law_266 rfl rfl ?_
  refine LL_iconst (v := 1) dL_law_267 rfl ?_
  refine LL_iadd dL_law_268 ?_
  refine LL_sld (j := i + 1) (nI_add i 1) (by omega) hL dL_law_269 ?_
  refine LL_aload_n dL_law_270 rfl rfl ?_
  refine LL_iload_n dL_law_271 rfl rfl ?_
  refine LL_iconst (v := 2) dL_law_272 rfl ?_
  refine LL_iadd dL_law_273 ?_
  refine LL_sld (j := i + 2) (nI_add i 2) (by omega) hL dL_law_274 ?_
  refine LL_callV (kc' := 6 * (d + 1)) (ks' := 12 * (d + 1)) (rest := [.int (zr_told A (xs (i + 1)) (xs (i + 2)))]) hR1.1 (rfl : vwCl[12]? = some (RX12, TX12, 51)) rfl (kr_told hr1 hg hR1 lsc_r) (by decide) mi_X12_told lk_L_26 rfl (Nat.le_of_ble_eq_true rfl) rfl rfl dL_law_275 ?_
  intro v2 μ2 h2
  obtain ⟨rfl, rfl⟩ := h2
  have hI2 : LINV x n S M P A := lw_end hC1 hA1 hR1 hn1 hr1 (fun _ _ _ => rfl) hg3
  refine LL_r1 ?_
  refine LL_icmp_eq (tgt := 1103) dL_law_278 (by decide) rfl ?_
  exact LL.fewer (by omega) (by omega) (kend _ _ _ _ _ _ hI2)
set_option maxHeartbeats 4000000 in
set_option maxRecDepth 100000 in
theorem lw_shot (hI : LINV x n S M P A) (hL : Ln ≤ 3072) (hi : i + 6 ≤ Ln) (kend : ∀ (n : Nat) (S : Nat → Nat × Nat) (M : Nat → Nat → Int32) (L : Nat → Nat → Int64) (P : Nat → Nat → Option Nat) (A : Abs), LINV x n S M P A → LL G (lsc x) b Ln xs (6 * d) (12 * d) 1103 [(3, .int (nI i)), (2, .ref (x + 75)), (1, .ref x), (0, .ref b)] [] (n, S, M, L, P)) : LL G (lsc x) b Ln xs (6 * (d + 1)) (12 * (d + 1)) 283 [(3, .int (nI i)), (2, .ref (x + 75)), (1, .ref x), (0, .ref b)] [] (n, S, M, L, P) := by
  obtain ⟨hC, hA, hR, hr, hg3, hn⟩ := id hI
  have hg2 : RNG2 A := hg3.1
  have hg : RNG A := hg2.1
  refine LL_aload_n dL_law_283 rfl rfl ?_
  refine LL_aload_n dL_law_284 rfl rfl ?_
  refine LL_iload_n dL_law_285 rfl rfl ?_
  refine LL_iconst (v := 1) dL_law_286 rfl ?_
  refine LL_iadd dL_law_287 ?_
  refine LL_sld (j := i + 1) (nI_add i 1) (by omega) hL dL_law_288 ?_
  refine LL_aload_n dL_law_289 rfl rfl ?_
  refine LL_iload_n dL_law_290 rfl rfl ?_
  refine LL_iconst (v := 2) dL_law_291 rfl ?_
  refine LL_iadd dL_law_292 ?_
  refine LL_sld (j := i + 2) (nI_add i 2) (by omega) hL dL_law_293 ?_
  refine LL_aload_n dL_law_294 rfl rfl ?_
  refine LL_iload_n dL_law_295 rfl rfl ?_
  refine LL_iconst (v := 3) dL_law_296 rfl ?_
  refine LL_iadd dL_law_297 ?_
  refine LL_sld (j := i + 3) (nI_add i 3) (by omega) hL dL_law_298 ?_
  refine LL_callV (kc' := 6 * (d + 1)) (ks' := 12 * (d + 1)) (rest := []) (congrArg Prod.fst (hC.sh (t := 0) (k := 12) (m := 0) (by decide))) (rfl : vwCl[11]? = some (RX11, TX11, 19)) rfl (kc_shot hA hg2 hC lsc_c) (by decide) mi_X11_shot lk_L_27 rfl (Nat.le_of_ble_eq_true rfl) rfl rfl dL_law_299 ?_
  intro v1 μ1 h1
  obtain ⟨rfl, rfl⟩ := h1
  obtain ⟨hC1, hA1, hR1, hr1, hn1⟩ : CWF x S P ∧ cABS x n S P M A ∧ RWF (x + 75) S P ∧ rABS (x + 75) M A ∧ x + 94 ≤ n := ⟨hC, hA, hR, hr, hn⟩
  refine LL_r1 ?_
  refine LL_aload_n dL_law_302 rfl rfl ?_
  refine LL_aload_n dL_law_303 rfl rfl ?_
  refine LL_iload_n dL_law_304 rfl rfl ?_
  refine LL_iconst (v := 1) dL_law_305 rfl ?_
  refine LL_iadd dL_law_306 ?_
  refine LL_sld (j := i + 1) (nI_add i 1) (by omega) hL dL_law_307 ?_
  refine LL_aload_n dL_law_308 rfl rfl ?_
  refine LL_iload_n dL_law_309 rfl rfl ?_
  refine LL_iconst (v := 2) dL_law_310 rfl ?_
  refine LL_iadd dL_law_311 ?_
  refine LL_sld (j := i + 2) (nI_add i 2) (by omega) hL dL_law_312 ?_
  refine LL_aload_n dL_law_313 rfl rfl ?_
  refine LL_iload_n dL_law_314 rfl rfl ?_
  refine LL_iconst (v := 3) dL_law_315 rfl ?_
  refine LL_iadd dL_law_316 ?_
  refine LL_sld (j := i + 3) (nI_add i 3) (by omega) hL dL_law_317 ?_
  refine LL_callV (kc' := 6 * (d + 1)) (ks' := 12 * (d + 1)) (rest := [.int (zr_shot A (xs (i + 1)) (xs (i + 2)) (xs (i + 3)))]) hR1.1 (rfl : vwCl[12]? = some (RX12, TX12, 51)) rfl (kr_shot hr1 hg2 hR1 lsc_r) (by decide) mi_X12_shot lk_L_30 rfl (Nat.le_of_ble_eq_true rfl) rfl rfl dL_law_318 ?_
  intro v2 μ2 h2
  obtain ⟨rfl, rfl⟩ := h2
  have hI2 : LINV x n S M P A := lw_end hC1 hA1 hR1 hn1 hr1 (fun _ _ _ => rfl) hg3
  refine LL_r1 ?_
  refine LL_icmp_eq (tgt := 1103) dL_law_321 (by decide) rfl ?_
  exact LL.fewer (by omega) (by omega) (kend _ _ _ _ _ _ hI2)
set_option maxHeartbeats 4000000 in
set_option maxRecDepth 100000 in
theorem lw_needs (hI : LINV x n S M P A) (hL : Ln ≤ 3072) (hi : i + 6 ≤ Ln) (kend : ∀ (n : Nat) (S : Nat → Nat × Nat) (M : Nat → Nat → Int32) (L : Nat → Nat → Int64) (P : Nat → Nat → Option Nat) (A : Abs), LINV x n S M P A → LL G (lsc x) b Ln xs (6 * d) (12 * d) 1103 [(3, .int (nI i)), (2, .ref (x + 75)), (1, .ref x), (0, .ref b)] [] (n, S, M, L, P)) : LL G (lsc x) b Ln xs (6 * (d + 1)) (12 * (d + 1)) 326 [(3, .int (nI i)), (2, .ref (x + 75)), (1, .ref x), (0, .ref b)] [] (n, S, M, L, P) := by
  obtain ⟨hC, hA, hR, hr, hg3, hn⟩ := id hI
  have hg2 : RNG2 A := hg3.1
  have hg : RNG A := hg2.1
  refine LL_aload_n dL_law_326 rfl rfl ?_
  refine LL_aload_n dL_law_327 rfl rfl ?_
  refine LL_iload_n dL_law_328 rfl rfl ?_
  refine LL_iconst (v := 1) dL_law_329 rfl ?_
  refine LL_iadd dL_law_330 ?_
  refine LL_sld (j := i + 1) (nI_add i 1) (by omega) hL dL_law_331 ?_
  refine LL_aload_n dL_law_332 rfl rfl ?_
  refine LL_iload_n dL_law_333 rfl rfl ?_
  refine LL_iconst (v := 2) dL_law_334 rfl ?_
  refine LL_iadd dL_law_335 ?_
  refine LL_sld (j := i + 2) (nI_add i 2) (by omega) hL dL_law_336 ?_
  refine LL_callV (kc' := 6 * (d + 1)) (ks' := 12 * (d + 1)) (rest := []) (congrArg Prod.fst (hC.sh (t := 0) (k := 12) (m := 0) (by decide))) (rfl : vwCl[11]? = some (RX11, TX11, 19)) rfl (kc_needsM hA hg2 hC lsc_c) (by decide) mi_X11_needs lk_L_31 rfl (Nat.le_of_ble_eq_true rfl) rfl rfl dL_law_337 ?_
  intro v1 μ1 h1
  obtain ⟨rfl, rfl⟩ := h1
  obtain ⟨hC1, hA1, hR1, hr1, hn1⟩ : CWF x S P ∧ cABS x n S P M A ∧ RWF (x + 75) S P ∧ rABS (x + 75) M A ∧ x + 94 ≤ n := ⟨hC, hA, hR, hr, hn⟩
  refine LL_r1 ?_
  refine LL_aload_n dL_law_340 rfl rfl ?_
  refine LL_aload_n dL_law_341 rfl rfl ?_
  refine LL_iload_n dL_law_342 rfl rfl ?_
  refine LL_iconst (v := 1) dL_law_343 rfl ?_
  refine LL_iadd dL_law_344 ?_
  refine LL_sld (j := i + 1) (nI_add i 1) (by omega) hL dL_law_345 ?_
  refine LL_aload_n dL_law_346 rfl rfl ?_
  refine LL_iload_n dL_law_347 rfl rfl ?_
  refine LL_iconst (v := 2) dL_law_348 rfl ?_
  refine LL_iadd dL_law_349 ?_
  refine LL_sld (j := i + 2) (nI_add i 2) (by omega) hL dL_law_350 ?_
  refine LL_callV (kc' := 6 * (d + 1)) (ks' := 12 * (d + 1)) (rest := [.int (zr_needs A (xs (i + 1)) (xs (i + 2)))]) hR1.1 (rfl : vwCl[12]? = some (RX12, TX12, 51)) rfl (kr_needsP hr1 hg2 hR1 lsc_r) (by decide) mi_X12_needs lk_L_34 rfl (Nat.le_of_ble_eq_true rfl) rfl rfl dL_law_351 ?_
  intro v2 μ2 h2
  obtain ⟨rfl, rfl⟩ := h2
  have hI2 : LINV x n S M P A := lw_end hC1 hA1 hR1 hn1 hr1 (fun _ _ _ => rfl) hg3
  refine LL_r1 ?_
  refine LL_icmp_eq (tgt := 1103) dL_law_354 (by decide) rfl ?_
  exact LL.fewer (by omega) (by omega) (kend _ _ _ _ _ _ hI2)
set_option maxHeartbeats 4000000 in
set_option maxRecDepth 100000 in
theorem lw_feed (hI : LINV x n S M P A) (hL : Ln ≤ 3072) (hi : i + 6 ≤ Ln) (kend : ∀ (n : Nat) (S : Nat → Nat × Nat) (M : Nat → Nat → Int32) (L : Nat → Nat → Int64) (P : Nat → Nat → Option Nat) (A : Abs), LINV x n S M P A → LL G (lsc x) b Ln xs (6 * d) (12 * d) 1103 [(3, .int (nI i)), (2, .ref (x + 75)), (1, .ref x), (0, .ref b)] [] (n, S, M, L, P)) : LL G (lsc x) b Ln xs (6 * (d + 1)) (12 * (d + 1)) 359 [(3, .int (nI i)), (2, .ref (x + 75)), (1, .ref x), (0, .ref b)] [] (n, S, M, L, P) := by
  obtain ⟨hC, hA, hR, hr, hg3, hn⟩ := id hI
  have hg2 : RNG2 A := hg3.1
  have hg : RNG A := hg2.1
  refine LL_aload_n dL_law_359 rfl rfl ?_
  refine LL_aload_n dL_law_360 rfl rfl ?_
  refine LL_iload_n dL_law_361 rfl rfl ?_
  refine LL_iconst (v := 1) dL_law_362 rfl ?_
  refine LL_iadd dL_law_363 ?_
  refine LL_sld (j := i + 1) (nI_add i 1) (by omega) hL dL_law_364 ?_
  refine LL_callV (kc' := 6 * (d + 1)) (ks' := 12 * (d + 1)) (rest := []) (congrArg Prod.fst (hC.sh (t := 0) (k := 12) (m := 0) (by decide))) (rfl : vwCl[11]? = some (RX11, TX11, 19)) rfl (kc_feed hA hg2 hC lsc_c) (by decide) mi_X11_feed lk_L_35 rfl (Nat.le_of_ble_eq_true rfl) rfl rfl dL_law_365 ?_
  intro v1 μ1 h1
  obtain ⟨rfl, n1, S1, M1, L1, P1, rfl, hn0, hS1, hC1, hA1, hM1, hP1⟩ := h1
  obtain ⟨hR1, hr1, hn1⟩ := lw_mid hI hn0 hS1 hM1 hP1
  refine LL_r1 ?_
  refine LL_aload_n dL_law_368 rfl rfl ?_
  refine LL_aload_n dL_law_369 rfl rfl ?_
  refine LL_iload_n dL_law_370 rfl rfl ?_
  refine LL_iconst (v := 1) dL_law_371 rfl ?_
  refine LL_iadd dL_law_372 ?_
  refine LL_sld (j := i + 1) (nI_add i 1) (by omega) hL dL_law_373 ?_
  refine LL_callV (kc' := 6 * (d + 1)) (ks' := 12 * (d + 1)) (rest := [.int (zr_feed A (xs (i + 1))).1]) hR1.1 (rfl : vwCl[12]? = some (RX12, TX12, 51)) rfl (kr_feed hr1 hg2 hR1 lsc_r) (by decide) mi_X12_feed lk_L_39 rfl (Nat.le_of_ble_eq_true rfl) rfl rfl dL_law_374 ?_
  intro v2 μ2 h2
  obtain ⟨rfl, M3, L3, rfl, hr2, hf⟩ := h2
  have hI2 : LINV x n1 S1 M3 P1 (zr_feed A (xs (i + 1))).2 := lw_end hC1 hA1 hR1 hn1 hr2 hf (rng3_feed hg3)
  refine LL_r1 ?_
  refine LL_icmp_eq (tgt := 1103) dL_law_377 (by decide) rfl ?_
  exact LL.fewer (by omega) (by omega) (kend _ _ _ _ _ _ hI2)
set_option maxHeartbeats 4000000 in
set_option maxRecDepth 100000 in
theorem lw_text (hI : LINV x n S M P A) (hL : Ln ≤ 3072) (hi : i + 6 ≤ Ln) (kend : ∀ (n : Nat) (S : Nat → Nat × Nat) (M : Nat → Nat → Int32) (L : Nat → Nat → Int64) (P : Nat → Nat → Option Nat) (A : Abs), LINV x n S M P A → LL G (lsc x) b Ln xs (6 * d) (12 * d) 1103 [(3, .int (nI i)), (2, .ref (x + 75)), (1, .ref x), (0, .ref b)] [] (n, S, M, L, P)) : LL G (lsc x) b Ln xs (6 * (d + 1)) (12 * (d + 1)) 382 [(3, .int (nI i)), (2, .ref (x + 75)), (1, .ref x), (0, .ref b)] [] (n, S, M, L, P) := by
  obtain ⟨hC, hA, hR, hr, hg3, hn⟩ := id hI
  have hg2 : RNG2 A := hg3.1
  have hg : RNG A := hg2.1
  refine LL_aload_n dL_law_382 rfl rfl ?_
  refine LL_callV (kc' := 6 * (d + 1)) (ks' := 12 * (d + 1)) (rest := []) (congrArg Prod.fst (hC.sh (t := 0) (k := 12) (m := 0) (by decide))) (rfl : vwCl[11]? = some (RX11, TX11, 19)) rfl (kc_text hA hg2 hC lsc_c) (by decide) mi_X11_text lk_L_40 rfl (Nat.le_of_ble_eq_true rfl) rfl rfl dL_law_383 ?_
  intro v1 μ1 h1
  obtain ⟨rfl, n1, S1, M1, L1, P1, rfl, hn0, hS1, hC1, hA1, hM1, hP1⟩ := h1
  obtain ⟨hR1, hr1, hn1⟩ := lw_mid hI hn0 hS1 hM1 hP1
  refine LL_r1 ?_
  refine LL_aload_n dL_law_386 rfl rfl ?_
  refine LL_callV (kc' := 6 * (d + 1)) (ks' := 12 * (d + 1)) (rest := [.int (zr_text A).1]) hR1.1 (rfl : vwCl[12]? = some (RX12, TX12, 51)) rfl (kr_text hr1 hg2 hR1 lsc_r) (by decide) mi_X12_text lk_L_44 rfl (Nat.le_of_ble_eq_true rfl) rfl rfl dL_law_387 ?_
  intro v2 μ2 h2
  obtain ⟨rfl, M3, L3, rfl, hr2, hf⟩ := h2
  have hI2 : LINV x n1 S1 M3 P1 (zr_text A).2 := lw_end hC1 hA1 hR1 hn1 hr2 hf (rng3_text hg3)
  refine LL_r1 ?_
  refine LL_icmp_eq (tgt := 1103) dL_law_390 (by decide) rfl ?_
  exact LL.fewer (by omega) (by omega) (kend _ _ _ _ _ _ hI2)
set_option maxHeartbeats 4000000 in
set_option maxRecDepth 100000 in
theorem lw_force (hI : LINV x n S M P A) (hL : Ln ≤ 3072) (hi : i + 6 ≤ Ln) (kend : ∀ (n : Nat) (S : Nat → Nat × Nat) (M : Nat → Nat → Int32) (L : Nat → Nat → Int64) (P : Nat → Nat → Option Nat) (A : Abs), LINV x n S M P A → LL G (lsc x) b Ln xs (6 * d) (12 * d) 1103 [(3, .int (nI i)), (2, .ref (x + 75)), (1, .ref x), (0, .ref b)] [] (n, S, M, L, P)) : LL G (lsc x) b Ln xs (6 * (d + 1)) (12 * (d + 1)) 395 [(3, .int (nI i)), (2, .ref (x + 75)), (1, .ref x), (0, .ref b)] [] (n, S, M, L, P) := by
  obtain ⟨hC, hA, hR, hr, hg3, hn⟩ := id hI
  have hg2 : RNG2 A := hg3.1
  have hg : RNG A := hg2.1
  refine LL_aload_n dL_law_395 rfl rfl ?_
  refine LL_aload_n dL_law_396 rfl rfl ?_
  refine LL_iload_n dL_law_397 rfl rfl ?_
  refine LL_iconst (v := 1) dL_law_398 rfl ?_
  refine LL_iadd dL_law_399 ?_
  refine LL_sld (j := i + 1) (nI_add i 1) (by omega) hL dL_law_400 ?_
  refine LL_callV (kc' := 6 * (d + 1)) (ks' := 12 * (d + 1)) (rest := []) (congrArg Prod.fst (hC.sh (t := 0) (k := 12) (m := 0) (by decide))) (rfl : vwCl[11]? = some (RX11, TX11, 19)) rfl (kc_force hA hg2 hC lsc_c) (by decide) mi_X11_force lk_L_45 rfl (Nat.le_of_ble_eq_true rfl) rfl rfl dL_law_401 ?_
  intro v1 μ1 h1
  obtain ⟨rfl, n1, S1, M1, L1, P1, rfl, hn0, hS1, hC1, hA1, hM1, hP1⟩ := h1
  obtain ⟨hR1, hr1, hn1⟩ := lw_mid hI hn0 hS1 hM1 hP1
  refine LL_r1 ?_
  refine LL_aload_n dL_law_404 rfl rfl ?_
  refine LL_aload_n dL_law_405 rfl rfl ?_
  refine LL_iload_n dL_law_406 rfl rfl ?_
  refine LL_iconst (v := 1) dL_law_407 rfl ?_
  refine LL_iadd dL_law_408 ?_
  refine LL_sld (j := i + 1) (nI_add i 1) (by omega) hL dL_law_409 ?_
  refine LL_callV (kc' := 6 * (d + 1)) (ks' := 12 * (d + 1)) (rest := [.int (zr_force A (xs (i + 1))).1]) hR1.1 (rfl : vwCl[12]? = some (RX12, TX12, 51)) rfl (kr_force hr1 hg2 hR1 lsc_r) (by decide) mi_X12_force lk_L_48 rfl (Nat.le_of_ble_eq_true rfl) rfl rfl dL_law_410 ?_
  intro v2 μ2 h2
  obtain ⟨rfl, M3, L3, rfl, hr2, hf⟩ := h2
  have hI2 : LINV x n1 S1 M3 P1 (zr_force A (xs (i + 1))).2 := lw_end hC1 hA1 hR1 hn1 hr2 hf (rng3_force hg3)
  refine LL_r1 ?_
  refine LL_icmp_eq (tgt := 1103) dL_law_413 (by decide) rfl ?_
  exact LL.fewer (by omega) (by omega) (kend _ _ _ _ _ _ hI2)
end LW20
