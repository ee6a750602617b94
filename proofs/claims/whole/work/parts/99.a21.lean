section LW21
variable {G : Gx} {sc : Nat → Nat → Prop} {b Ln : Nat} {xs : Nat → Int32} {x n n' i d : Nat} {S S' : Nat → Nat × Nat} {M M' M2 : Nat → Nat → Int32} {L : Nat → Nat → Int64} {P P' : Nat → Nat → Option Nat} {A A' : Abs}

set_option maxHeartbeats 4000000 in
set_option maxRecDepth 100000 in
theorem lw_rally (hI : LINV x n S M P A) (hL : Ln ≤ 3072) (hi : i + 6 ≤ Ln) (kend : ∀ (n : Nat) (S : Nat → Nat × Nat) (M : Nat → Nat → Int32) (L : Nat → Nat → Int64) (P : Nat → Nat → Option Nat) (A : Abs), LINV x n S M P A → LL G (lsc x) b Ln xs (6 * d) (12 * d) 1103 [(3, .int (nI i)), (2, .ref (x + 75)), (1, .ref x), (0, .ref b)] [] (n, S, M, L, P)) : LL G (lsc x) b Ln xs (6 * (d + 1)) (12 * (d + 1)) 418 [(3, .int (nI i)), (2, .ref (x + 75)), (1, .ref x), (0, .ref b)] [] (n, S, M, L, P) := by
  obtain ⟨hC, hA, hR, hr, hg3, hn⟩ := id hI
  have hg2 : RNG2 A := hg3.1
  have hg : RNG A := hg2.1
  refine LL_aload_n dL_law_418 rfl rfl ?_
  refine LL_aload_n dL_law_419 rfl rfl ?_
  refine LL_iload_n dL_law_420 rfl rfl ?_
  refine LL_iconst (v := 1) dL_law_421 rfl ?_
  refine LL_iadd dL_law_422 ?_
  refine LL_sld (j := i + 1) (nI_add i 1) (by omega) hL dL_law_423 ?_
  refine LL_aload_n dL_law_424 rfl rfl ?_
  refine LL_iload_n dL_law_425 rfl rfl ?_
  refine LL_iconst (v := 2) dL_law_426 rfl ?_
  refine LL_iadd dL_law_427 ?_
  refine LL_sld (j := i + 2) (nI_add i 2) (by omega) hL dL_law_428 ?_
  refine LL_callV (kc' := 6 * (d + 1)) (ks' := 12 * (d + 1)) (rest := []) (congrArg Prod.fst (hC.sh (t := 0) (k := 12) (m := 0) (by decide))) (rfl : vwCl[11]? = some (RX11, TX11, 19)) rfl (kc_rally hA hg2 hC lsc_c) (by decide) mi_X11_rally lk_L_49 rfl (Nat.le_of_ble_eq_true rfl) rfl rfl dL_law_429 ?_
  intro v1 μ1 h1
  obtain ⟨rfl, n1, S1, M1, L1, P1, rfl, hn0, hS1, hC1, hA1, hM1, hP1⟩ := h1
  obtain ⟨hR1, hr1, hn1⟩ := lw_mid hI hn0 hS1 hM1 hP1
  refine LL_r1 ?_
  refine LL_aload_n dL_law_432 rfl rfl ?_
  refine LL_aload_n dL_law_433 rfl rfl ?_
  refine LL_iload_n dL_law_434 rfl rfl ?_
  refine LL_iconst (v := 1) dL_law_435 rfl ?_
  refine LL_iadd dL_law_436 ?_
  refine LL_sld (j := i + 1) (nI_add i 1) (by omega) hL dL_law_437 ?_
  refine LL_aload_n dL_law_438 rfl rfl ?_
  refine LL_iload_n dL_law_439 rfl rfl ?_
  refine LL_iconst (v := 2) dL_law_440 rfl ?_
  refine LL_iadd dL_law_441 ?_
  refine LL_sld (j := i + 2) (nI_add i 2) (by omega) hL dL_law_442 ?_
  refine LL_callV (kc' := 6 * (d + 1)) (ks' := 12 * (d + 1)) (rest := [.int (zr_rally A (xs (i + 1)) (xs (i + 2)))]) hR1.1 (rfl : vwCl[12]? = some (RX12, TX12, 51)) rfl (kr_rally hr1 hg hR1 lsc_r) (by decide) mi_X12_rally lk_L_52 rfl (Nat.le_of_ble_eq_true rfl) rfl rfl dL_law_443 ?_
  intro v2 μ2 h2
  obtain ⟨rfl, M3, L3, rfl, hf⟩ := h2
  have hI2 : LINV x n1 S1 M3 P1 A := lw_end hC1 hA1 hR1 hn1 (hr1.keep hf) (fun b k z => hf b k (fun t => z (td_ro t))) hg3
  refine LL_r1 ?_
  refine LL_icmp_eq (tgt := 1103) dL_law_446 (by decide) rfl ?_
  exact LL.fewer (by omega) (by omega) (kend _ _ _ _ _ _ hI2)
set_option maxHeartbeats 4000000 in
set_option maxRecDepth 100000 in
theorem lw_play (hI : LINV x n S M P A) (hL : Ln ≤ 3072) (hi : i + 6 ≤ Ln) (kend : ∀ (n : Nat) (S : Nat → Nat × Nat) (M : Nat → Nat → Int32) (L : Nat → Nat → Int64) (P : Nat → Nat → Option Nat) (A : Abs), LINV x n S M P A → LL G (lsc x) b Ln xs (6 * d) (12 * d) 1103 [(3, .int (nI i)), (2, .ref (x + 75)), (1, .ref x), (0, .ref b)] [] (n, S, M, L, P)) : LL G (lsc x) b Ln xs (6 * (d + 1)) (12 * (d + 1)) 451 [(3, .int (nI i)), (2, .ref (x + 75)), (1, .ref x), (0, .ref b)] [] (n, S, M, L, P) := by
  obtain ⟨hC, hA, hR, hr, hg3, hn⟩ := id hI
  have hg2 : RNG2 A := hg3.1
  have hg : RNG A := hg2.1
  refine LL_aload_n dL_law_451 rfl rfl ?_
  refine LL_aload_n dL_law_452 rfl rfl ?_
  refine LL_iload_n dL_law_453 rfl rfl ?_
  refine LL_iconst (v := 1) dL_law_454 rfl ?_
  refine LL_iadd dL_law_455 ?_
  refine LL_sld (j := i + 1) (nI_add i 1) (by omega) hL dL_law_456 ?_
  refine LL_callV (kc' := 6 * (d + 1)) (ks' := 12 * (d + 1)) (rest := []) (congrArg Prod.fst (hC.sh (t := 0) (k := 12) (m := 0) (by decide))) (rfl : vwCl[11]? = some (RX11, TX11, 19)) rfl (kc_play hA hg2 hC lsc_c) (by decide) mi_X11_play lk_L_53 rfl (Nat.le_of_ble_eq_true rfl) rfl rfl dL_law_457 ?_
  intro v1 μ1 h1
  obtain ⟨rfl, n1, S1, M1, L1, P1, rfl, hn0, hS1, hC1, hA1, hM1, hP1⟩ := h1
  obtain ⟨hR1, hr1, hn1⟩ := lw_mid hI hn0 hS1 hM1 hP1
  refine LL_r1 ?_
  refine LL_aload_n dL_law_460 rfl rfl ?_
  refine LL_aload_n dL_law_461 rfl rfl ?_
  refine LL_iload_n dL_law_462 rfl rfl ?_
  refine LL_iconst (v := 1) dL_law_463 rfl ?_
  refine LL_iadd dL_law_464 ?_
  refine LL_sld (j := i + 1) (nI_add i 1) (by omega) hL dL_law_465 ?_
  refine LL_callV (kc' := 6 * (d + 1)) (ks' := 12 * (d + 1)) (rest := [.int (zr_play A (xs (i + 1))).1]) hR1.1 (rfl : vwCl[12]? = some (RX12, TX12, 51)) rfl (kr_play hr1 hg2 hR1 lsc_r) (by decide) mi_X12_play lk_L_56 rfl (Nat.le_of_ble_eq_true rfl) rfl rfl dL_law_466 ?_
  intro v2 μ2 h2
  obtain ⟨rfl, M3, L3, rfl, hr2, hf⟩ := h2
  have hI2 : LINV x n1 S1 M3 P1 (zr_play A (xs (i + 1))).2 := lw_end hC1 hA1 hR1 hn1 hr2 hf (rng3_play hg3)
  refine LL_r1 ?_
  refine LL_icmp_eq (tgt := 1103) dL_law_469 (by decide) rfl ?_
  exact LL.fewer (by omega) (by omega) (kend _ _ _ _ _ _ hI2)
set_option maxHeartbeats 4000000 in
set_option maxRecDepth 100000 in
theorem lw_likely (hI : LINV x n S M P A) (hL : Ln ≤ 3072) (hi : i + 6 ≤ Ln) (kend : ∀ (n : Nat) (S : Nat → Nat × Nat) (M : Nat → Nat → Int32) (L : Nat → Nat → Int64) (P : Nat → Nat → Option Nat) (A : Abs), LINV x n S M P A → LL G (lsc x) b Ln xs (6 * d) (12 * d) 1103 [(3, .int (nI i)), (2, .ref (x + 75)), (1, .ref x), (0, .ref b)] [] (n, S, M, L, P)) : LL G (lsc x) b Ln xs (6 * (d + 1)) (12 * (d + 1)) 474 [(3, .int (nI i)), (2, .ref (x + 75)), (1, .ref x), (0, .ref b)] [] (n, S, M, L, P) := by
  obtain ⟨hC, hA, hR, hr, hg3, hn⟩ := id hI
  have hg2 : RNG2 A := hg3.1
  have hg : RNG A := hg2.1
  refine LL_aload_n dL_law_474 rfl rfl ?_
  refine LL_aload_n dL_law_475 rfl rfl ?_
  refine LL_iload_n dL_law_476 rfl rfl ?_
  refine LL_iconst (v := 1) dL_law_477 rfl ?_
  refine LL_iadd dL_law_478 ?_
  refine LL_sld (j := i + 1) (nI_add i 1) (by omega) hL dL_law_479 ?_
  refine LL_callV (kc' := 6 * (d + 1)) (ks' := 12 * (d + 1)) (rest := []) (congrArg Prod.fst (hC.sh (t := 0) (k := 12) (m := 0) (by decide))) (rfl : vwCl[11]? = some (RX11, TX11, 19)) rfl (kc_likely hA hg2 hC lsc_c) (by decide) mi_X11_likely lk_L_57 rfl (Nat.le_of_ble_eq_true rfl) rfl rfl dL_law_480 ?_
  intro v1 μ1 h1
  obtain ⟨rfl, n1, S1, M1, L1, P1, rfl, hn0, hS1, hC1, hA1, hM1, hP1⟩ := h1
  obtain ⟨hR1, hr1, hn1⟩ := lw_mid hI hn0 hS1 hM1 hP1
  refine LL_r1 ?_
  refine LL_aload_n dL_law_483 rfl rfl ?_
  refine LL_aload_n dL_law_484 rfl rfl ?_
  refine LL_iload_n dL_law_485 rfl rfl ?_
  refine LL_iconst (v := 1) dL_law_486 rfl ?_
  refine LL_iadd dL_law_487 ?_
  refine LL_sld (j := i + 1) (nI_add i 1) (by omega) hL dL_law_488 ?_
  refine LL_callV (kc' := 6 * (d + 1)) (ks' := 12 * (d + 1)) (rest := [.long (zr_likely A (xs (i + 1)))]) hR1.1 (rfl : vwCl[12]? = some (RX12, TX12, 51)) rfl (kr_likely hr1 hg hR1 lsc_r) (by decide) mi_X12_likely lk_L_61 rfl (Nat.le_of_ble_eq_true rfl) rfl rfl dL_law_489 ?_
  intro v2 μ2 h2
  obtain ⟨rfl, M3, L3, rfl, hf⟩ := h2
  have hI2 : LINV x n1 S1 M3 P1 A := lw_end hC1 hA1 hR1 hn1 (hr1.keep hf) (fun b k z => hf b k (fun t => z (td_ro t))) hg3
  refine LL_r1 ?_
  refine LL_lcmp dL_law_492 ?_
  refine LL_if_eq (tgt := 1103) dL_law_493 (by decide) lg_cmp0 ?_
  exact LL.fewer (by omega) (by omega) (kend _ _ _ _ _ _ hI2)
set_option maxHeartbeats 4000000 in
set_option maxRecDepth 100000 in
theorem lw_best (hI : LINV x n S M P A) (hL : Ln ≤ 3072) (hi : i + 6 ≤ Ln) (kend : ∀ (n : Nat) (S : Nat → Nat × Nat) (M : Nat → Nat → Int32) (L : Nat → Nat → Int64) (P : Nat → Nat → Option Nat) (A : Abs), LINV x n S M P A → LL G (lsc x) b Ln xs (6 * d) (12 * d) 1103 [(3, .int (nI i)), (2, .ref (x + 75)), (1, .ref x), (0, .ref b)] [] (n, S, M, L, P)) : LL G (lsc x) b Ln xs (6 * (d + 1)) (12 * (d + 1)) 498 [(3, .int (nI i)), (2, .ref (x + 75)), (1, .ref x), (0, .ref b)] [] (n, S, M, L, P) := by
  obtain ⟨hC, hA, hR, hr, hg3, hn⟩ := id hI
  have hg2 : RNG2 A := hg3.1
  have hg : RNG A := hg2.1
  refine LL_aload_n dL_law_498 rfl rfl ?_
  refine LL_aload_n dL_law_499 rfl rfl ?_
  refine LL_iload_n dL_law_500 rfl rfl ?_
  refine LL_iconst (v := 1) dL_law_501 rfl ?_
  refine LL_iadd dL_law_502 ?_
  refine LL_sld (j := i + 1) (nI_add i 1) (by omega) hL dL_law_503 ?_
  refine LL_aload_n dL_law_504 rfl rfl ?_
  refine LL_iload_n dL_law_505 rfl rfl ?_
  refine LL_iconst (v := 2) dL_law_506 rfl ?_
  refine LL_iadd dL_law_507 ?_
  refine LL_sld (j := i + 2) (nI_add i 2) (by omega) hL dL_law_508 ?_
  refine LL_aload_n dL_law_509 rfl rfl ?_
  refine LL_iload_n dL_law_510 rfl rfl ?_
  refine LL_iconst (v := 3) dL_law_511 rfl ?_
  refine LL_iadd dL_law_512 ?_
  refine LL_sld (j := i + 3) (nI_add i 3) (by omega) hL dL_law_513 ?_
  refine LL_callV (kc' := 6 * (d + 1)) (ks' := 12 * (d + 1)) (rest := []) (congrArg Prod.fst (hC.sh (t := 0) (k := 12) (m := 0) (by decide))) (rfl : vwCl[11]? = some (RX11, TX11, 19)) rfl (kc_best hA hg2 hC lsc_c) (by decide) mi_X11_best lk_L_62 rfl (Nat.le_of_ble_eq_true rfl) rfl rfl dL_law_514 ?_
  intro v1 μ1 h1
  obtain ⟨rfl, n1, S1, M1, L1, P1, rfl, hn0, hS1, hC1, hA1, hM1, hP1⟩ := h1
  obtain ⟨hR1, hr1, hn1⟩ := lw_mid hI hn0 hS1 hM1 hP1
  refine LL_r1 ?_
  refine LL_aload_n dL_law_517 rfl rfl ?_
  refine LL_aload_n dL_law_518 rfl rfl ?_
  refine LL_iload_n dL_law_519 rfl rfl ?_
  refine LL_iconst (v := 1) dL_law_520 rfl ?_
  refine LL_iadd dL_law_521 ?_
  refine LL_sld (j := i + 1) (nI_add i 1) (by omega) hL dL_law_522 ?_
  refine LL_aload_n dL_law_523 rfl rfl ?_
  refine LL_iload_n dL_law_524 rfl rfl ?_
  refine LL_iconst (v := 2) dL_law_525 rfl ?_
  refine LL_iadd dL_law_526 ?_
  refine LL_sld (j := i + 2) (nI_add i 2) (by omega) hL dL_law_527 ?_
  refine LL_aload_n dL_law_528 rfl rfl ?_
  refine LL_iload_n dL_law_529 rfl rfl ?_
  refine LL_iconst (v := 3) dL_law_530 rfl ?_
  refine LL_iadd dL_law_531 ?_
  refine LL_sld (j := i + 3) (nI_add i 3) (by omega) hL dL_law_532 ?_
  refine LL_callV (kc' := 6 * (d + 1)) (ks' := 12 * (d + 1)) (rest := [.int (zr_best A (xs (i + 1)) (xs (i + 2)) (xs (i + 3)))]) hR1.1 (rfl : vwCl[12]? = some (RX12, TX12, 51)) rfl (kr_best hr1 hg hR1 lsc_r) (by decide) mi_X12_best lk_L_65 rfl (Nat.le_of_ble_eq_true rfl) rfl rfl dL_law_533 ?_
  intro v2 μ2 h2
  obtain ⟨rfl, M3, L3, rfl, hf⟩ := h2
  have hI2 : LINV x n1 S1 M3 P1 A := lw_end hC1 hA1 hR1 hn1 (hr1.keep hf) (fun b k z => hf b k (fun t => z (td_ro t))) hg3
  refine LL_r1 ?_
  refine LL_icmp_eq (tgt := 1103) dL_law_536 (by decide) rfl ?_
  exact LL.fewer (by omega) (by omega) (kend _ _ _ _ _ _ hI2)
set_option maxHeartbeats 4000000 in
set_option maxRecDepth 100000 in
theorem lw_sure (hI : LINV x n S M P A) (hL : Ln ≤ 3072) (hi : i + 6 ≤ Ln) (kend : ∀ (n : Nat) (S : Nat → Nat × Nat) (M : Nat → Nat → Int32) (L : Nat → Nat → Int64) (P : Nat → Nat → Option Nat) (A : Abs), LINV x n S M P A → LL G (lsc x) b Ln xs (6 * d) (12 * d) 1103 [(3, .int (nI i)), (2, .ref (x + 75)), (1, .ref x), (0, .ref b)] [] (n, S, M, L, P)) : LL G (lsc x) b Ln xs (6 * (d + 1)) (12 * (d + 1)) 541 [(3, .int (nI i)), (2, .ref (x + 75)), (1, .ref x), (0, .ref b)] [] (n, S, M, L, P) := by
  obtain ⟨hC, hA, hR, hr, hg3, hn⟩ := id hI
  have hg2 : RNG2 A := hg3.1
  have hg : RNG A := hg2.1
  refine LL_aload_n dL_law_541 rfl rfl ?_
  refine LL_aload_n dL_law_542 rfl rfl ?_
  refine LL_iload_n dL_law_543 rfl rfl ?_
  refine LL_iconst (v := 1) dL_law_544 rfl ?_
  refine LL_iadd dL_law_545 ?_
  refine LL_sld (j := i + 1) (nI_add i 1) (by omega) hL dL_law_546 ?_
  refine LL_callV (kc' := 6 * (d + 1)) (ks' := 12 * (d + 1)) (rest := []) (congrArg Prod.fst (hC.sh (t := 0) (k := 12) (m := 0) (by decide))) (rfl : vwCl[11]? = some (RX11, TX11, 19)) rfl (kc_sure hA hg2 hC lsc_c) (by decide) mi_X11_sure lk_L_66 rfl (Nat.le_of_ble_eq_true rfl) rfl rfl dL_law_547 ?_
  intro v1 μ1 h1
  obtain ⟨rfl, n1, S1, M1, L1, P1, rfl, hn0, hS1, hC1, hA1, hM1, hP1⟩ := h1
  obtain ⟨hR1, hr1, hn1⟩ := lw_mid hI hn0 hS1 hM1 hP1
  refine LL_r1 ?_
  refine LL_aload_n dL_law_550 rfl rfl ?_
  refine LL_aload_n dL_law_551 rfl rfl ?_
  refine LL_iload_n dL_law_552 rfl rfl ?_
  refine LL_iconst (v := 1) dL_law_553 rfl ?_
  refine LL_iadd dL_law_554 ?_
  refine LL_sld (j := i + 1) (nI_add i 1) (by omega) hL dL_law_555 ?_
  refine LL_callV (kc' := 6 * (d + 1)) (ks' := 12 * (d + 1)) (rest := [.int (zr_sure A (xs (i + 1)))]) hR1.1 (rfl : vwCl[12]? = some (RX12, TX12, 51)) rfl (kr_sure hr1 hg hR1 lsc_r) (by decide) mi_X12_sure lk_L_69 rfl (Nat.le_of_ble_eq_true rfl) rfl rfl dL_law_556 ?_
  intro v2 μ2 h2
  obtain ⟨rfl, M3, L3, rfl, hf⟩ := h2
  have hI2 : LINV x n1 S1 M3 P1 A := lw_end hC1 hA1 hR1 hn1 (hr1.keep hf) (fun b k z => hf b k (fun t => z (td_ro t))) hg3
  refine LL_r1 ?_
  refine LL_icmp_eq (tgt := 1103) dL_law_559 (by decide) rfl ?_
  exact LL.fewer (by omega) (by omega) (kend _ _ _ _ _ _ hI2)
set_option maxHeartbeats 4000000 in
set_option maxRecDepth 100000 in
theorem lw_stand (hI : LINV x n S M P A) (hL : Ln ≤ 3072) (hi : i + 6 ≤ Ln) (kend : ∀ (n : Nat) (S : Nat → Nat × Nat) (M : Nat → Nat → Int32) (L : Nat → Nat → Int64) (P : Nat → Nat → Option Nat) (A : Abs), LINV x n S M P A → LL G (lsc x) b Ln xs (6 * d) (12 * d) 1103 [(3, .int (nI i)), (2, .ref (x + 75)), (1, .ref x), (0, .ref b)] [] (n, S, M, L, P)) : LL G (lsc x) b Ln xs (6 * (d + 1)) (12 * (d + 1)) 564 [(3, .int (nI i)), (2, .ref (x + 75)), (1, .ref x), (0, .ref b)] [] (n, S, M, L, P) := by
  obtain ⟨hC, hA, hR, hr, hg3, hn⟩ := id hI
  have hg2 : RNG2 A := hg3.1
  have hg : RNG A := hg2.1
  refine LL_aload_n dL_law_564 rfl rfl ?_
  refine LL_aload_n dL_law_565 rfl rfl ?_
  refine LL_iload_n dL_law_566 rfl rfl ?_
  refine LL_iconst (v := 1) dL_law_567 rfl ?_
  refine LL_iadd dL_law_568 ?_
  refine LL_sld (j := i + 1) (nI_add i 1) (by omega) hL dL_law_569 ?_
  refine LL_aload_n dL_law_570 rfl rfl ?_
  refine LL_iload_n dL_law_571 rfl rfl ?_
  refine LL_iconst (v := 2) dL_law_572 rfl ?_
  refine LL_iadd dL_law_573 ?_
  refine LL_sld (j := i + 2) (nI_add i 2) (by omega) hL dL_law_574 ?_
  refine LL_callV (kc' := 6 * (d + 1)) (ks' := 12 * (d + 1)) (rest := []) (congrArg Prod.fst (hC.sh (t := 0) (k := 12) (m := 0) (by decide))) (rfl : vwCl[11]? = some (RX11, TX11, 19)) rfl (kc_stand hA hg2 hC lsc_c) (by decide) mi_X11_stand lk_L_70 rfl (Nat.le_of_ble_eq_true rfl) rfl rfl dL_law_575 ?_
  intro v1 μ1 h1
  obtain ⟨rfl, rfl⟩ := h1
  obtain ⟨hC1, hA1, hR1, hr1, hn1⟩ : CWF x S P ∧ cABS x n S P M A ∧ RWF (x + 75) S P ∧ rABS (x + 75) M A ∧ x + 94 ≤ n := ⟨hC, hA, hR, hr, hn⟩
  refine LL_r1 ?_
  refine LL_aload_n dL_law_578 rfl rfl ?_
  refine LL_aload_n dL_law_579 rfl rfl ?_
  refine LL_iload_n dL_law_580 rfl rfl ?_
  refine LL_iconst (v := 1) dL_law_581 rfl ?_
  refine LL_iadd dL_law_582 ?_
  refine LL_sld (j := i + 1) (nI_add i 1) (by omega) hL dL_law_583 ?_
  refine LL_aload_n dL_law_584 rfl rfl ?_
  refine LL_iload_n dL_law_585 rfl rfl ?_
  refine LL_iconst (v := 2) dL_law_586 rfl ?_
  refine LL_iadd dL_law_587 ?_
  refine LL_sld (j := i + 2) (nI_add i 2) (by omega) hL dL_law_588 ?_
  refine LL_callV (kc' := 6 * (d + 1)) (ks' := 12 * (d + 1)) (rest := [.int (zr_stand A (xs (i + 1)) (xs (i + 2)))]) hR1.1 (rfl : vwCl[12]? = some (RX12, TX12, 51)) rfl (kr_stand hr1 hg hR1 lsc_r) (by decide) mi_X12_stand lk_L_73 rfl (Nat.le_of_ble_eq_true rfl) rfl rfl dL_law_589 ?_
  intro v2 μ2 h2
  obtain ⟨rfl, rfl⟩ := h2
  have hI2 : LINV x n S M P A := lw_end hC1 hA1 hR1 hn1 hr1 (fun _ _ _ => rfl) hg3
  refine LL_r1 ?_
  refine LL_icmp_eq (tgt := 1103) dL_law_592 (by decide) rfl ?_
  exact LL.fewer (by omega) (by omega) (kend _ _ _ _ _ _ hI2)
set_option maxHeartbeats 4000000 in
set_option maxRecDepth 100000 in
theorem lw_tires (hI : LINV x n S M P A) (hL : Ln ≤ 3072) (hi : i + 6 ≤ Ln) (kend : ∀ (n : Nat) (S : Nat → Nat × Nat) (M : Nat → Nat → Int32) (L : Nat → Nat → Int64) (P : Nat → Nat → Option Nat) (A : Abs), LINV x n S M P A → LL G (lsc x) b Ln xs (6 * d) (12 * d) 1103 [(3, .int (nI i)), (2, .ref (x + 75)), (1, .ref x), (0, .ref b)] [] (n, S, M, L, P)) : LL G (lsc x) b Ln xs (6 * (d + 1)) (12 * (d + 1)) 597 [(3, .int (nI i)), (2, .ref (x + 75)), (1, .ref x), (0, .ref b)] [] (n, S, M, L, P) := by
  obtain ⟨hC, hA, hR, hr, hg3, hn⟩ := id hI
  have hg2 : RNG2 A := hg3.1
  have hg : RNG A := hg2.1
  refine LL_aload_n dL_law_597 rfl rfl ?_
  refine LL_aload_n dL_law_598 rfl rfl ?_
  refine LL_iload_n dL_law_599 rfl rfl ?_
  refine LL_iconst (v := 1) dL_law_600 rfl ?_
  refine LL_iadd dL_law_601 ?_
  refine LL_sld (j := i + 1) (nI_add i 1) (by omega) hL dL_law_602 ?_
  refine LL_callV (kc' := 6 * (d + 1)) (ks' := 12 * (d + 1)) (rest := []) (congrArg Prod.fst (hC.sh (t := 0) (k := 12) (m := 0) (by decide))) (rfl : vwCl[11]? = some (RX11, TX11, 19)) rfl (kc_tires hA hg2 hC lsc_c) (by decide) mi_X11_tires lk_L_74 rfl (Nat.le_of_ble_eq_true rfl) rfl rfl dL_law_603 ?_
  intro v1 μ1 h1
  obtain ⟨rfl, rfl⟩ := h1
  obtain ⟨hC1, hA1, hR1, hr1, hn1⟩ : CWF x S P ∧ cABS x n S P M A ∧ RWF (x + 75) S P ∧ rABS (x + 75) M A ∧ x + 94 ≤ n := ⟨hC, hA, hR, hr, hn⟩
  refine LL_r1 ?_
  refine LL_aload_n dL_law_606 rfl rfl ?_
  refine LL_aload_n dL_law_607 rfl rfl ?_
  refine LL_iload_n dL_law_608 rfl rfl ?_
  refine LL_iconst (v := 1) dL_law_609 rfl ?_
  refine LL_iadd dL_law_610 ?_
  refine LL_sld (j := i + 1) (nI_add i 1) (by omega) hL dL_law_611 ?_
  refine LL_callV (kc' := 6 * (d + 1)) (ks' := 12 * (d + 1)) (rest := [.int (zr_tires A (xs (i + 1)))]) hR1.1 (rfl : vwCl[12]? = some (RX12, TX12, 51)) rfl (kr_tires hr1 hg hR1 lsc_r) (by decide) mi_X12_tires lk_L_77 rfl (Nat.le_of_ble_eq_true rfl) rfl rfl dL_law_612 ?_
  intro v2 μ2 h2
  obtain ⟨rfl, M3, L3, rfl, hf⟩ := h2
  have hI2 : LINV x n S M3 P A := lw_end hC1 hA1 hR1 hn1 (hr1.keep hf) (fun b k z => hf b k (fun t => z (td_ro t))) hg3
  refine LL_r1 ?_
  refine LL_icmp_eq (tgt := 1103) dL_law_615 (by decide) rfl ?_
  exact LL.fewer (by omega) (by omega) (kend _ _ _ _ _ _ hI2)
set_option maxHeartbeats 4000000 in
set_option maxRecDepth 100000 in
theorem lw_inTheWay (hI : LINV x n S M P A) (hL : Ln ≤ 3072) (hi : i + 6 ≤ Ln) (kend : ∀ (n : Nat) (S : Nat → Nat × Nat) (M : Nat → Nat → Int32) (L : Nat → Nat → Int64) (P : Nat → Nat → Option Nat) (A : Abs), LINV x n S M P A → LL G (lsc x) b Ln xs (6 * d) (12 * d) 1103 [(3, .int (nI i)), (2, .ref (x + 75)), (1, .ref x), (0, .ref b)] [] (n, S, M, L, P)) : LL G (lsc x) b Ln xs (6 * (d + 1)) (12 * (d + 1)) 620 [(3, .int (nI i)), (2, .ref (x + 75)), (1, .ref x), (0, .ref b)] [] (n, S, M, L, P) := by
  obtain ⟨hC, hA, hR, hr, hg3, hn⟩ := id hI
  have hg2 : RNG2 A := hg3.1
  have hg : RNG A := hg2.1
  refine LL_aload_n dL_law_620 rfl rfl ?_
  refine LL_aload_n dL_law_621 rfl rfl ?_
  refine LL_iload_n dL_law_622 rfl rfl ?_
  refine LL_iconst (v := 1) dL_law_623 rfl ?_
  refine LL_iadd dL_law_624 ?_
  refine LL_sld (j := i + 1) (nI_add i 1) (by omega) hL dL_law_625 ?_
  refine LL_callV (kc' := 6 * (d + 1)) (ks' := 12 * (d + 1)) (rest := []) (congrArg Prod.fst (hC.sh (t := 0) (k := 12) (m := 0) (by decide))) (rfl : vwCl[11]? = some (RX11, TX11, 19)) rfl (kc_way hA hg2 hC lsc_c) (by decide) mi_X11_inTheWay lk_L_78 rfl (Nat.le_of_ble_eq_true rfl) rfl rfl dL_law_626 ?_
  intro v1 μ1 h1
  obtain ⟨rfl, n1, S1, M1, L1, P1, rfl, hn0, hS1, hC1, hA1, hM1, hP1⟩ := h1
  obtain ⟨hR1, hr1, hn1⟩ := lw_mid hI hn0 hS1 hM1 hP1
  refine LL_r1 ?_
  refine LL_aload_n dL_law_629 rfl rfl ?_
  refine LL_aload_n dL_law_630 rfl rfl ?_
  refine LL_iload_n dL_law_631 rfl rfl ?_
  refine LL_iconst (v := 1) dL_law_632 rfl ?_
  refine LL_iadd dL_law_633 ?_
  refine LL_sld (j := i + 1) (nI_add i 1) (by omega) hL dL_law_634 ?_
  refine LL_callV (kc' := 6 * (d + 1)) (ks' := 12 * (d + 1)) (rest := [.int (zr_way A (xs (i + 1)))]) hR1.1 (rfl : vwCl[12]? = some (RX12, TX12, 51)) rfl (kr_inTheWay hr1 hg hR1 lsc_r) (by decide) mi_X12_inTheWay lk_L_81 rfl (Nat.le_of_ble_eq_true rfl) rfl rfl dL_law_635 ?_
  intro v2 μ2 h2
  obtain ⟨rfl, M3, L3, rfl, hf⟩ := h2
  have hI2 : LINV x n1 S1 M3 P1 A := lw_end hC1 hA1 hR1 hn1 (hr1.keep hf) (fun b k z => hf b k (fun t => z (td_ro t))) hg3
  refine LL_r1 ?_
  refine LL_icmp_eq (tgt := 1103) dL_law_638 (by decide) rfl ?_
  exact LL.fewer (by omega) (by omega) (kend _ _ _ _ _ _ hI2)
end LW21
