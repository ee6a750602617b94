section LW22
variable {G : Gx} {sc : Nat → Nat → Prop} {b Ln : Nat} {xs : Nat → Int32} {x n n' i d : Nat} {S S' : Nat → Nat × Nat} {M M' M2 : Nat → Nat → Int32} {L : Nat → Nat → Int64} {P P' : Nat → Nat → Option Nat} {A A' : Abs}

set_option maxHeartbeats 4000000 in
set_option maxRecDepth 100000 in
theorem lw_balls (hI : LINV x n S M P A) (hL : Ln ≤ 3072) (hi : i + 6 ≤ Ln) (kend : ∀ (n : Nat) (S : Nat → Nat × Nat) (M : Nat → Nat → Int32) (L : Nat → Nat → Int64) (P : Nat → Nat → Option Nat) (A : Abs), LINV x n S M P A → LL G (lsc x) b Ln xs (6 * d) (12 * d) 1103 [(3, .int (nI i)), (2, .ref (x + 75)), (1, .ref x), (0, .ref b)] [] (n, S, M, L, P)) : LL G (lsc x) b Ln xs (6 * (d + 1)) (12 * (d + 1)) 643 [(3, .int (nI i)), (2, .ref (x + 75)), (1, .ref x), (0, .ref b)] [] (n, S, M, L, P) := by
  obtain ⟨hC, hA, hR, hr, hg3, hn⟩ := id hI
  have hg2 : RNG2 A := hg3.1
  have hg : RNG A := hg2.1
  refine LL_aload_n dL_law_643 rfl rfl ?_
  refine LL_aload_n dL_law_644 rfl rfl ?_
  refine LL_iload_n dL_law_645 rfl rfl ?_
  refine LL_iconst (v := 1) dL_law_646 rfl ?_
  refine LL_iadd dL_law_647 ?_
  refine LL_sld (j := i + 1) (nI_add i 1) (by omega) hL dL_law_648 ?_
  refine LL_aload_n dL_law_649 rfl rfl ?_
  refine LL_iload_n dL_law_650 rfl rfl ?_
  refine LL_iconst (v := 2) dL_law_651 rfl ?_
  refine LL_iadd dL_law_652 ?_
  refine LL_sld (j := i + 2) (nI_add i 2) (by omega) hL dL_law_653 ?_
  refine LL_callV (kc' := 6 * (d + 1)) (ks' := 12 * (d + 1)) (rest := []) (congrArg Prod.fst (hC.sh (t := 0) (k := 12) (m := 0) (by decide))) (rfl : vwCl[11]? = some (RX11, TX11, 19)) rfl (kc_balls hA hg2 hC lsc_c) (by decide) mi_X11_balls lk_L_82 rfl (Nat.le_of_ble_eq_true rfl) rfl rfl dL_law_654 ?_
  intro v1 μ1 h1
  obtain ⟨rfl, n1, S1, M1, L1, P1, rfl, hn0, hS1, hC1, hA1, hM1, hP1⟩ := h1
  obtain ⟨hR1, hr1, hn1⟩ := lw_mid hI hn0 hS1 hM1 hP1
  refine LL_r1 ?_
  refine LL_aload_n dL_law_657 rfl rfl ?_
  refine LL_aload_n dL_law_658 rfl rfl ?_
  refine LL_iload_n dL_law_659 rfl rfl ?_
  refine LL_iconst (v := 1) dL_law_660 rfl ?_
  refine LL_iadd dL_law_661 ?_
  refine LL_sld (j := i + 1) (nI_add i 1) (by omega) hL dL_law_662 ?_
  refine LL_aload_n dL_law_663 rfl rfl ?_
  refine LL_iload_n dL_law_664 rfl rfl ?_
  refine LL_iconst (v := 2) dL_law_665 rfl ?_
  refine LL_iadd dL_law_666 ?_
  refine LL_sld (j := i + 2) (nI_add i 2) (by omega) hL dL_law_667 ?_
  refine LL_callV (kc' := 6 * (d + 1)) (ks' := 12 * (d + 1)) (rest := [.int (zr_balls A (xs (i + 1)) (xs (i + 2)))]) hR1.1 (rfl : vwCl[12]? = some (RX12, TX12, 51)) rfl (kr_balls hr1 hg hR1 lsc_r) (by decide) mi_X12_balls lk_L_85 rfl (Nat.le_of_ble_eq_true rfl) rfl rfl dL_law_668 ?_
  intro v2 μ2 h2
  obtain ⟨rfl, M3, L3, rfl, hf⟩ := h2
  have hI2 : LINV x n1 S1 M3 P1 A := lw_end hC1 hA1 hR1 hn1 (hr1.keep hf) (fun b k z => hf b k (fun t => z (td_ro t))) hg3
  refine LL_r1 ?_
  refine LL_icmp_eq (tgt := 1103) dL_law_671 (by decide) rfl ?_
  exact LL.fewer (by omega) (by omega) (kend _ _ _ _ _ _ hI2)
set_option maxHeartbeats 4000000 in
set_option maxRecDepth 100000 in
theorem lw_quicks (hI : LINV x n S M P A) (hL : Ln ≤ 3072) (hi : i + 6 ≤ Ln) (kend : ∀ (n : Nat) (S : Nat → Nat × Nat) (M : Nat → Nat → Int32) (L : Nat → Nat → Int64) (P : Nat → Nat → Option Nat) (A : Abs), LINV x n S M P A → LL G (lsc x) b Ln xs (6 * d) (12 * d) 1103 [(3, .int (nI i)), (2, .ref (x + 75)), (1, .ref x), (0, .ref b)] [] (n, S, M, L, P)) : LL G (lsc x) b Ln xs (6 * (d + 1)) (12 * (d + 1)) 676 [(3, .int (nI i)), (2, .ref (x + 75)), (1, .ref x), (0, .ref b)] [] (n, S, M, L, P) := by
  obtain ⟨hC, hA, hR, hr, hg3, hn⟩ := id hI
  have hg2 : RNG2 A := hg3.1
  have hg : RNG A := hg2.1
  refine LL_aload_n dL_law_676 rfl rfl ?_
  refine LL_aload_n dL_law_677 rfl rfl ?_
  refine LL_iload_n dL_law_678 rfl rfl ?_
  refine LL_iconst (v := 1) dL_law_679 rfl ?_
  refine LL_iadd dL_law_680 ?_
  refine LL_sld (j := i + 1) (nI_add i 1) (by omega) hL dL_law_681 ?_
  refine LL_aload_n dL_law_682 rfl rfl ?_
  refine LL_iload_n dL_law_683 rfl rfl ?_
  refine LL_iconst (v := 2) dL_law_684 rfl ?_
  refine LL_iadd dL_law_685 ?_
  refine LL_sld (j := i + 2) (nI_add i 2) (by omega) hL dL_law_686 ?_
  refine LL_aload_n dL_law_687 rfl rfl ?_
  refine LL_iload_n dL_law_688 rfl rfl ?_
  refine LL_iconst (v := 3) dL_law_689 rfl ?_
  refine LL_iadd dL_law_690 ?_
  refine LL_sld (j := i + 3) (nI_add i 3) (by omega) hL dL_law_691 ?_
  refine LL_callV (kc' := 6 * (d + 1)) (ks' := 12 * (d + 1)) (rest := []) (congrArg Prod.fst (hC.sh (t := 0) (k := 12) (m := 0) (by decide))) (rfl : vwCl[11]? = some (RX11, TX11, 19)) rfl (kc_quicks hA hg2 hC lsc_c) (by decide) mi_X11_quicks lk_L_86 rfl (Nat.le_of_ble_eq_true rfl) rfl rfl dL_law_692 ?_
  intro v1 μ1 h1
  obtain ⟨rfl, n1, S1, M1, L1, P1, rfl, hn0, hS1, hC1, hA1, hM1, hP1⟩ := h1
  obtain ⟨hR1, hr1, hn1⟩ := lw_mid hI hn0 hS1 hM1 hP1
  refine LL_r1 ?_
  refine LL_aload_n dL_law_695 rfl rfl ?_
  refine LL_aload_n dL_law_696 rfl rfl ?_
  refine LL_iload_n dL_law_697 rfl rfl ?_
  refine LL_iconst (v := 1) dL_law_698 rfl ?_
  refine LL_iadd dL_law_699 ?_
  refine LL_sld (j := i + 1) (nI_add i 1) (by omega) hL dL_law_700 ?_
  refine LL_aload_n dL_law_701 rfl rfl ?_
  refine LL_iload_n dL_law_702 rfl rfl ?_
  refine LL_iconst (v := 2) dL_law_703 rfl ?_
  refine LL_iadd dL_law_704 ?_
  refine LL_sld (j := i + 2) (nI_add i 2) (by omega) hL dL_law_705 ?_
  refine LL_aload_n dL_law_706 rfl rfl ?_
  refine LL_iload_n dL_law_707 rfl rfl ?_
  refine LL_iconst (v := 3) dL_law_708 rfl ?_
  refine LL_iadd dL_law_709 ?_
  refine LL_sld (j := i + 3) (nI_add i 3) (by omega) hL dL_law_710 ?_
  refine LL_callV (kc' := 6 * (d + 1)) (ks' := 12 * (d + 1)) (rest := [.int (zr_quicks A (xs (i + 1)) (xs (i + 2)) (xs (i + 3)))]) hR1.1 (rfl : vwCl[12]? = some (RX12, TX12, 51)) rfl (kr_quicks hr1 hg hR1 lsc_r) (by decide) mi_X12_quicks lk_L_89 rfl (Nat.le_of_ble_eq_true rfl) rfl rfl dL_law_711 ?_
  intro v2 μ2 h2
  obtain ⟨rfl, M3, L3, rfl, hf⟩ := h2
  have hI2 : LINV x n1 S1 M3 P1 A := lw_end hC1 hA1 hR1 hn1 (hr1.keep hf) (fun b k z => hf b k (fun t => z (td_ro t))) hg3
  refine LL_r1 ?_
  refine LL_icmp_eq (tgt := 1103) dL_law_714 (by decide) rfl ?_
  exact LL.fewer (by omega) (by omega) (kend _ _ _ _ _ _ hI2)
set_option maxHeartbeats 4000000 in
set_option maxRecDepth 100000 in
theorem lw_film (hI : LINV x n S M P A) (hL : Ln ≤ 3072) (hi : i + 6 ≤ Ln) (kend : ∀ (n : Nat) (S : Nat → Nat × Nat) (M : Nat → Nat → Int32) (L : Nat → Nat → Int64) (P : Nat → Nat → Option Nat) (A : Abs), LINV x n S M P A → LL G (lsc x) b Ln xs (6 * d) (12 * d) 1103 [(3, .int (nI i)), (2, .ref (x + 75)), (1, .ref x), (0, .ref b)] [] (n, S, M, L, P)) : LL G (lsc x) b Ln xs (6 * (d + 1)) (12 * (d + 1)) 719 [(3, .int (nI i)), (2, .ref (x + 75)), (1, .ref x), (0, .ref b)] [] (n, S, M, L, P) := by
  obtain ⟨hC, hA, hR, hr, hg3, hn⟩ := id hI
  have hg2 : RNG2 A := hg3.1
  have hg : RNG A := hg2.1
  refine LL_aload_n dL_law_719 rfl rfl ?_
  refine LL_aload_n dL_law_720 rfl rfl ?_
  refine LL_iload_n dL_law_721 rfl rfl ?_
  refine LL_iconst (v := 1) dL_law_722 rfl ?_
  refine LL_iadd dL_law_723 ?_
  refine LL_sld (j := i + 1) (nI_add i 1) (by omega) hL dL_law_724 ?_
  refine LL_aload_n dL_law_725 rfl rfl ?_
  refine LL_iload_n dL_law_726 rfl rfl ?_
  refine LL_iconst (v := 2) dL_law_727 rfl ?_
  refine LL_iadd dL_law_728 ?_
  refine LL_sld (j := i + 2) (nI_add i 2) (by omega) hL dL_law_729 ?_
  refine LL_callV (kc' := 6 * (d + 1)) (ks' := 12 * (d + 1)) (rest := []) (congrArg Prod.fst (hC.sh (t := 0) (k := 12) (m := 0) (by decide))) (rfl : vwCl[11]? = some (RX11, TX11, 19)) rfl (kc_film hA hg2 hC lsc_c) (by decide) mi_X11_film lk_L_90 rfl (Nat.le_of_ble_eq_true rfl) rfl rfl dL_law_730 ?_
  intro v1 μ1 h1
  obtain ⟨rfl, n1, S1, M1, L1, P1, rfl, hn0, hS1, hC1, hA1, hM1, hP1⟩ := h1
  obtain ⟨hR1, hr1, hn1⟩ := lw_mid hI hn0 hS1 hM1 hP1
  refine LL_r1 ?_
  refine LL_aload_n dL_law_733 rfl rfl ?_
  refine LL_aload_n dL_law_734 rfl rfl ?_
  refine LL_iload_n dL_law_735 rfl rfl ?_
  refine LL_iconst (v := 1) dL_law_736 rfl ?_
  refine LL_iadd dL_law_737 ?_
  refine LL_sld (j := i + 1) (nI_add i 1) (by omega) hL dL_law_738 ?_
  refine LL_aload_n dL_law_739 rfl rfl ?_
  refine LL_iload_n dL_law_740 rfl rfl ?_
  refine LL_iconst (v := 2) dL_law_741 rfl ?_
  refine LL_iadd dL_law_742 ?_
  refine LL_sld (j := i + 2) (nI_add i 2) (by omega) hL dL_law_743 ?_
  refine LL_callV (kc' := 6 * (d + 1)) (ks' := 12 * (d + 1)) (rest := [.int (zr_film A (xs (i + 1)) (xs (i + 2))).1]) hR1.1 (rfl : vwCl[12]? = some (RX12, TX12, 51)) rfl (kr_film hr1 hg2 hR1 lsc_r) (by decide) mi_X12_film lk_L_93 rfl (Nat.le_of_ble_eq_true rfl) rfl rfl dL_law_744 ?_
  intro v2 μ2 h2
  obtain ⟨rfl, M3, L3, rfl, hr2, hf⟩ := h2
  have hI2 : LINV x n1 S1 M3 P1 (zr_film A (xs (i + 1)) (xs (i + 2))).2 := lw_end hC1 hA1 hR1 hn1 hr2 hf (rng3_film hg3)
  refine LL_r1 ?_
  refine LL_icmp_eq (tgt := 1103) dL_law_747 (by decide) rfl ?_
  exact LL.fewer (by omega) (by omega) (kend _ _ _ _ _ _ hI2)
set_option maxHeartbeats 4000000 in
set_option maxRecDepth 100000 in
theorem lw_drawn (hI : LINV x n S M P A) (hL : Ln ≤ 3072) (hi : i + 6 ≤ Ln) (kend : ∀ (n : Nat) (S : Nat → Nat × Nat) (M : Nat → Nat → Int32) (L : Nat → Nat → Int64) (P : Nat → Nat → Option Nat) (A : Abs), LINV x n S M P A → LL G (lsc x) b Ln xs (6 * d) (12 * d) 1103 [(3, .int (nI i)), (2, .ref (x + 75)), (1, .ref x), (0, .ref b)] [] (n, S, M, L, P)) : LL G (lsc x) b Ln xs (6 * (d + 1)) (12 * (d + 1)) 752 [(3, .int (nI i)), (2, .ref (x + 75)), (1, .ref x), (0, .ref b)] [] (n, S, M, L, P) := by
  obtain ⟨hC, hA, hR, hr, hg3, hn⟩ := id hI
  have hg2 : RNG2 A := hg3.1
  have hg : RNG A := hg2.1
  refine LL_aload_n dL_law_752 rfl rfl ?_
  refine LL_aload_n dL_law_753 rfl rfl ?_
  refine LL_iload_n dL_law_754 rfl rfl ?_
  refine LL_iconst (v := 1) dL_law_755 rfl ?_
  refine LL_iadd dL_law_756 ?_
  refine LL_sld (j := i + 1) (nI_add i 1) (by omega) hL dL_law_757 ?_
  refine LL_callV (kc' := 6 * (d + 1)) (ks' := 12 * (d + 1)) (rest := []) (congrArg Prod.fst (hC.sh (t := 0) (k := 12) (m := 0) (by decide))) (rfl : vwCl[11]? = some (RX11, TX11, 19)) rfl (kc_drawn hA hg2 hC lsc_c) (by decide) mi_X11_drawn lk_L_94 rfl (Nat.le_of_ble_eq_true rfl) rfl rfl dL_law_758 ?_
  intro v1 μ1 h1
  obtain ⟨rfl, n1, S1, M1, L1, P1, rfl, hn0, hS1, hC1, hA1, hM1, hP1⟩ := h1
  obtain ⟨hR1, hr1, hn1⟩ := lw_mid hI hn0 hS1 hM1 hP1
  refine LL_r1 ?_
  refine LL_aload_n dL_law_761 rfl rfl ?_
  refine LL_aload_n dL_law_762 rfl rfl ?_
  refine LL_iload_n dL_law_763 rfl rfl ?_
  refine LL_iconst (v := 1) dL_law_764 rfl ?_
  refine LL_iadd dL_law_765 ?_
  refine LL_sld (j := i + 1) (nI_add i 1) (by omega) hL dL_law_766 ?_
  refine LL_callV (kc' := 6 * (d + 1)) (ks' := 12 * (d + 1)) (rest := [.int (zr_drawn A (xs (i + 1)))]) hR1.1 (rfl : vwCl[12]? = some (RX12, TX12, 51)) rfl (kr_drawn hr1 hg hR1 lsc_r) (by decide) mi_X12_drawn lk_L_97 rfl (Nat.le_of_ble_eq_true rfl) rfl rfl dL_law_767 ?_
  intro v2 μ2 h2
  obtain ⟨rfl, M3, L3, rfl, hf⟩ := h2
  have hI2 : LINV x n1 S1 M3 P1 A := lw_end hC1 hA1 hR1 hn1 (hr1.keep hf) (fun b k z => hf b k (fun t => z (td_ro t))) hg3
  refine LL_r1 ?_
  refine LL_icmp_eq (tgt := 1103) dL_law_770 (by decide) rfl ?_
  exact LL.fewer (by omega) (by omega) (kend _ _ _ _ _ _ hI2)
set_option maxHeartbeats 4000000 in
set_option maxRecDepth 100000 in
theorem lw_chance (hI : LINV x n S M P A) (hL : Ln ≤ 3072) (hi : i + 6 ≤ Ln) (kend : ∀ (n : Nat) (S : Nat → Nat × Nat) (M : Nat → Nat → Int32) (L : Nat → Nat → Int64) (P : Nat → Nat → Option Nat) (A : Abs), LINV x n S M P A → LL G (lsc x) b Ln xs (6 * d) (12 * d) 1103 [(3, .int (nI i)), (2, .ref (x + 75)), (1, .ref x), (0, .ref b)] [] (n, S, M, L, P)) : LL G (lsc x) b Ln xs (6 * (d + 1)) (12 * (d + 1)) 775 [(3, .int (nI i)), (2, .ref (x + 75)), (1, .ref x), (0, .ref b)] [] (n, S, M, L, P) := by
  obtain ⟨hC, hA, hR, hr, hg3, hn⟩ := id hI
  have hg2 : RNG2 A := hg3.1
  have hg : RNG A := hg2.1
  refine LL_aload_n dL_law_775 rfl rfl ?_
  refine LL_aload_n dL_law_776 rfl rfl ?_
  refine LL_iload_n dL_law_777 rfl rfl ?_
  refine LL_iconst (v := 1) dL_law_778 rfl ?_
  refine LL_iadd dL_law_779 ?_
  refine LL_sld (j := i + 1) (nI_add i 1) (by omega) hL dL_law_780 ?_
  refine LL_aload_n dL_law_781 rfl rfl ?_
  refine LL_iload_n dL_law_782 rfl rfl ?_
  refine LL_iconst (v := 2) dL_law_783 rfl ?_
  refine LL_iadd dL_law_784 ?_
  refine LL_sld (j := i + 2) (nI_add i 2) (by omega) hL dL_law_785 ?_
  refine LL_aload_n dL_law_786 rfl rfl ?_
  refine LL_iload_n dL_law_787 rfl rfl ?_
  refine LL_iconst (v := 3) dL_law_788 rfl ?_
  refine LL_iadd dL_law_789 ?_
  refine LL_sld (j := i + 3) (nI_add i 3) (by omega) hL dL_law_790 ?_
  refine LL_callV (kc' := 6 * (d + 1)) (ks' := 12 * (d + 1)) (rest := []) (congrArg Prod.fst (hC.sh (t := 0) (k := 12) (m := 0) (by decide))) (rfl : vwCl[11]? = some (RX11, TX11, 19)) rfl (kc_chance hA hg2 hC lsc_c) (by decide) mi_X11_chance lk_L_98 rfl (Nat.le_of_ble_eq_true rfl) rfl rfl dL_law_791 ?_
  intro v1 μ1 h1
  obtain ⟨rfl, n1, S1, M1, L1, P1, rfl, hn0, hS1, hC1, hA1, hM1, hP1⟩ := h1
  obtain ⟨hR1, hr1, hn1⟩ := lw_mid hI hn0 hS1 hM1 hP1
  refine LL_r1 ?_
  refine LL_aload_n dL_law_794 rfl rfl ?_
  refine LL_aload_n dL_law_795 rfl rfl ?_
  refine LL_iload_n dL_law_796 rfl rfl ?_
  refine LL_iconst (v := 1) dL_law_797 rfl ?_
  refine LL_iadd dL_law_798 ?_
  refine LL_sld (j := i + 1) (nI_add i 1) (by omega) hL dL_law_799 ?_
  refine LL_aload_n dL_law_800 rfl rfl ?_
  refine LL_iload_n dL_law_801 rfl rfl ?_
  refine LL_iconst (v := 2) dL_law_802 rfl ?_
  refine LL_iadd dL_law_803 ?_
  refine LL_sld (j := i + 2) (nI_add i 2) (by omega) hL dL_law_804 ?_
  refine LL_aload_n dL_law_805 rfl rfl ?_
  refine LL_iload_n dL_law_806 rfl rfl ?_
  refine LL_iconst (v := 3) dL_law_807 rfl ?_
  refine LL_iadd dL_law_808 ?_
  refine LL_sld (j := i + 3) (nI_add i 3) (by omega) hL dL_law_809 ?_
  refine LL_callV (kc' := 6 * (d + 1)) (ks' := 12 * (d + 1)) (rest := [.long (zr_chance A (xs (i + 1)) (xs (i + 2)) (xs (i + 3)))]) hR1.1 (rfl : vwCl[12]? = some (RX12, TX12, 51)) rfl (kr_chance hr1 hg hR1 lsc_r) (by decide) mi_X12_chance lk_L_102 rfl (Nat.le_of_ble_eq_true rfl) rfl rfl dL_law_810 ?_
  intro v2 μ2 h2
  obtain ⟨rfl, M3, L3, rfl, hf⟩ := h2
  have hI2 : LINV x n1 S1 M3 P1 A := lw_end hC1 hA1 hR1 hn1 (hr1.keep hf) (fun b k z => hf b k (fun t => z (td_ro t))) hg3
  refine LL_r1 ?_
  refine LL_lcmp dL_law_813 ?_
  refine LL_if_eq (tgt := 1103) dL_law_814 (by decide) lg_cmp0 ?_
  exact LL.fewer (by omega) (by omega) (kend _ _ _ _ _ _ hI2)
set_option maxHeartbeats 4000000 in
set_option maxRecDepth 100000 in
theorem lw_image (hI : LINV x n S M P A) (hL : Ln ≤ 3072) (hi : i + 6 ≤ Ln) (kend : ∀ (n : Nat) (S : Nat → Nat × Nat) (M : Nat → Nat → Int32) (L : Nat → Nat → Int64) (P : Nat → Nat → Option Nat) (A : Abs), LINV x n S M P A → LL G (lsc x) b Ln xs (6 * d) (12 * d) 1103 [(3, .int (nI i)), (2, .ref (x + 75)), (1, .ref x), (0, .ref b)] [] (n, S, M, L, P)) : LL G (lsc x) b Ln xs (6 * (d + 1)) (12 * (d + 1)) 819 [(3, .int (nI i)), (2, .ref (x + 75)), (1, .ref x), (0, .ref b)] [] (n, S, M, L, P) := by
  obtain ⟨hC, hA, hR, hr, hg3, hn⟩ := id hI
  have hg2 : RNG2 A := hg3.1
  have hg : RNG A := hg2.1
  refine LL_aload_n dL_law_819 rfl rfl ?_
  refine LL_callV (kc' := 6 * (d + 1)) (ks' := 12 * (d + 1)) (rest := []) (congrArg Prod.fst (hC.sh (t := 0) (k := 12) (m := 0) (by decide))) (rfl : vwCl[11]? = some (RX11, TX11, 19)) rfl (kc_image hA hg2 hC lsc_c) (by decide) mi_X11_image lk_L_103 rfl (Nat.le_of_ble_eq_true rfl) rfl rfl dL_law_820 ?_
  intro v1 μ1 h1
  obtain ⟨rfl, n1, S1, M1, L1, P1, rfl, hn0, hS1, hC1, hA1, hM1, hP1⟩ := h1
  obtain ⟨hR1, hr1, hn1⟩ := lw_mid hI hn0 hS1 hM1 hP1
  refine LL_r1 ?_
  refine LL_aload_n dL_law_823 rfl rfl ?_
  refine LL_callV (kc' := 6 * (d + 1)) (ks' := 12 * (d + 1)) (rest := [.int (A.1 8 0)]) hR1.1 (rfl : vwCl[12]? = some (RX12, TX12, 51)) rfl (kr_image hr1 hg2 hR1 lsc_r) (by decide) mi_X12_image lk_L_106 rfl (Nat.le_of_ble_eq_true rfl) rfl rfl dL_law_824 ?_
  intro v2 μ2 h2
  obtain ⟨rfl, M3, L3, rfl, hr2, hf⟩ := h2
  have hI2 : LINV x n1 S1 M3 P1 (zImg A) := lw_end hC1 hA1 hR1 hn1 hr2 hf (rng3_image hg3)
  refine LL_r1 ?_
  refine LL_icmp_eq (tgt := 1103) dL_law_827 (by decide) rfl ?_
  exact LL.fewer (by omega) (by omega) (kend _ _ _ _ _ _ hI2)
set_option maxHeartbeats 4000000 in
set_option maxRecDepth 100000 in
theorem lw_back (hI : LINV x n S M P A) (hL : Ln ≤ 3072) (hi : i + 6 ≤ Ln) (kend : ∀ (n : Nat) (S : Nat → Nat × Nat) (M : Nat → Nat → Int32) (L : Nat → Nat → Int64) (P : Nat → Nat → Option Nat) (A : Abs), LINV x n S M P A → LL G (lsc x) b Ln xs (6 * d) (12 * d) 1103 [(3, .int (nI i)), (2, .ref (x + 75)), (1, .ref x), (0, .ref b)] [] (n, S, M, L, P)) : LL G (lsc x) b Ln xs (6 * (d + 1)) (12 * (d + 1)) 832 [(3, .int (nI i)), (2, .ref (x + 75)), (1, .ref x), (0, .ref b)] [] (n, S, M, L, P) := by
  obtain ⟨hC, hA, hR, hr, hg3, hn⟩ := id hI
  have hg2 : RNG2 A := hg3.1
  have hg : RNG A := hg2.1
  refine LL_aload_n dL_law_832 rfl rfl ?_
  refine LL_callV (kc' := 6 * (d + 1)) (ks' := 12 * (d + 1)) (rest := []) (congrArg Prod.fst (hC.sh (t := 0) (k := 12) (m := 0) (by decide))) (rfl : vwCl[11]? = some (RX11, TX11, 19)) rfl (kc_back hA hg2 hC lsc_c) (by decide) mi_X11_back lk_L_107 rfl (Nat.le_of_ble_eq_true rfl) rfl rfl dL_law_833 ?_
  intro v1 μ1 h1
  obtain ⟨rfl, n1, S1, M1, L1, P1, rfl, hn0, hS1, hC1, hA1, hM1, hP1⟩ := h1
  obtain ⟨hR1, hr1, hn1⟩ := lw_mid hI hn0 hS1 hM1 hP1
  refine LL_r1 ?_
  refine LL_aload_n dL_law_836 rfl rfl ?_
  refine LL_callV (kc' := 6 * (d + 1)) (ks' := 12 * (d + 1)) (rest := [.int (zr_back A).1]) hR1.1 (rfl : vwCl[12]? = some (RX12, TX12, 51)) rfl (kr_back hr1 hg2 hR1 lsc_r) (by decide) mi_X12_back lk_L_110 rfl (Nat.le_of_ble_eq_true rfl) rfl rfl dL_law_837 ?_
  intro v2 μ2 h2
  obtain ⟨rfl, M3, L3, rfl, hr2, hf⟩ := h2
  have hI2 : LINV x n1 S1 M3 P1 (zr_back A).2 := lw_end hC1 hA1 hR1 hn1 hr2 hf (rng3_back hg3)
  refine LL_r1 ?_
  refine LL_icmp_eq (tgt := 1103) dL_law_840 (by decide) rfl ?_
  exact LL.fewer (by omega) (by omega) (kend _ _ _ _ _ _ hI2)
set_option maxHeartbeats 4000000 in
set_option maxRecDepth 100000 in
theorem lw_count (hI : LINV x n S M P A) (hL : Ln ≤ 3072) (hi : i + 6 ≤ Ln) (kend : ∀ (n : Nat) (S : Nat → Nat × Nat) (M : Nat → Nat → Int32) (L : Nat → Nat → Int64) (P : Nat → Nat → Option Nat) (A : Abs), LINV x n S M P A → LL G (lsc x) b Ln xs (6 * d) (12 * d) 1103 [(3, .int (nI i)), (2, .ref (x + 75)), (1, .ref x), (0, .ref b)] [] (n, S, M, L, P)) : LL G (lsc x) b Ln xs (6 * (d + 1)) (12 * (d + 1)) 845 [(3, .int (nI i)), (2, .ref (x + 75)), (1, .ref x), (0, .ref b)] [] (n, S, M, L, P) := by
  obtain ⟨hC, hA, hR, hr, hg3, hn⟩ := id hI
  have hg2 : RNG2 A := hg3.1
  have hg : RNG A := hg2.1
  refine LL_aload_n dL_law_845 rfl rfl ?_
  refine LL_aload_n dL_law_846 rfl rfl ?_
  refine LL_iload_n dL_law_847 rfl rfl ?_
  refine LL_iconst (v := 1) dL_law_848 rfl ?_
  refine LL_iadd dL_law_849 ?_
  refine LL_sld (j := i + 1) (nI_add i 1) (by omega) hL dL_law_850 ?_
  refine LL_callV (kc' := 6 * (d + 1)) (ks' := 12 * (d + 1)) (rest := []) (congrArg Prod.fst (hC.sh (t := 0) (k := 12) (m := 0) (by decide))) (rfl : vwCl[11]? = some (RX11, TX11, 19)) rfl (kc_count hA hg2 hC lsc_c) (by decide) mi_X11_count lk_L_111 rfl (Nat.le_of_ble_eq_true rfl) rfl rfl dL_law_851 ?_
  intro v1 μ1 h1
  obtain ⟨rfl, rfl⟩ := h1
  obtain ⟨hC1, hA1, hR1, hr1, hn1⟩ : CWF x S P ∧ cABS x n S P M A ∧ RWF (x + 75) S P ∧ rABS (x + 75) M A ∧ x + 94 ≤ n := ⟨hC, hA, hR, hr, hn⟩
  refine LL_r1 ?_
  refine LL_aload_n dL_law_854 rfl rfl ?_
  refine LL_aload_n dL_law_855 rfl rfl ?_
  refine LL_iload_n dL_law_856 rfl rfl ?_
  refine LL_iconst (v := 1) dL_law_857 rfl ?_
  refine LL_iadd dL_law_858 ?_
  refine LL_sld (j := i + 1) (nI_add i 1) (by omega) hL dL_law_859 ?_
  refine LL_callV (kc' := 6 * (d + 1)) (ks' := 12 * (d + 1)) (rest := [.int (zr_count A (xs (i + 1)))]) hR1.1 (rfl : vwCl[12]? = some (RX12, TX12, 51)) rfl (kr_count hr1 hg2 hR1 lsc_r) (by decide) mi_X12_count lk_L_114 rfl (Nat.le_of_ble_eq_true rfl) rfl rfl dL_law_860 ?_
  intro v2 μ2 h2
  obtain ⟨rfl, rfl⟩ := h2
  have hI2 : LINV x n S M P A := lw_end hC1 hA1 hR1 hn1 hr1 (fun _ _ _ => rfl) hg3
  refine LL_r1 ?_
  refine LL_icmp_eq (tgt := 1103) dL_law_863 (by decide) rfl ?_
  exact LL.fewer (by omega) (by omega) (kend _ _ _ _ _ _ hI2)
end LW22
