section LW23
variable {G : Gx} {sc : Nat → Nat → Prop} {b Ln : Nat} {xs : Nat → Int32} {x n n' i d : Nat} {S S' : Nat → Nat × Nat} {M M' M2 : Nat → Nat → Int32} {L : Nat → Nat → Int64} {P P' : Nat → Nat → Option Nat} {A A' : Abs}

set_option maxHeartbeats 4000000 in
set_option maxRecDepth 100000 in
theorem lw_sheet (hI : LINV x n S M P A) (hL : Ln ≤ 3072) (hi : i + 6 ≤ Ln) (kend : ∀ (n : Nat) (S : Nat → Nat × Nat) (M : Nat → Nat → Int32) (L : Nat → Nat → Int64) (P : Nat → Nat → Option Nat) (A : Abs), LINV x n S M P A → LL G (lsc x) b Ln xs (6 * d) (12 * d) 1103 [(3, .int (nI i)), (2, .ref (x + 75)), (1, .ref x), (0, .ref b)] [] (n, S, M, L, P)) : LL G (lsc x) b Ln xs (6 * (d + 1)) (12 * (d + 1)) 868 [(3, .int (nI i)), (2, .ref (x + 75)), (1, .ref x), (0, .ref b)] [] (n, S, M, L, P) := by
  obtain ⟨hC, hA, hR, hr, hg3, hn⟩ := id hI
  have hg2 : RNG2 A := hg3.1
  have hg : RNG A := hg2.1
  refine LL_aload_n dL_law_868 rfl rfl ?_
  refine LL_aload_n dL_law_869 rfl rfl ?_
  refine LL_iload_n dL_law_870 rfl rfl ?_
  refine LL_iconst (v := 1) dL_law_871 rfl ?_
  refine LL_iadd dL_law_872 ?_
  refine LL_sld (j := i + 1) (nI_add i 1) (by omega) hL dL_law_873 ?_
  refine LL_aload_n dL_law_874 rfl rfl ?_
  refine LL_iload_n dL_law_875 rfl rfl ?_
  refine LL_iconst (v := 2) dL_law_876 rfl ?_
  refine LL_iadd dL_law_877 ?_
  refine LL_sld (j := i + 2) (nI_add i 2) (by omega) hL dL_law_878 ?_
  refine LL_aload_n dL_law_879 rfl rfl ?_
  refine LL_iload_n dL_law_880 rfl rfl ?_
  refine LL_iconst (v := 3) dL_law_881 rfl ?_
  refine LL_iadd dL_law_882 ?_
  refine LL_sld (j := i + 3) (nI_add i 3) (by omega) hL dL_law_883 ?_
  refine LL_callV (kc' := 6 * (d + 1)) (ks' := 12 * (d + 1)) (rest := []) (congrArg Prod.fst (hC.sh (t := 0) (k := 12) (m := 0) (by decide))) (rfl : vwCl[11]? = some (RX11, TX11, 19)) rfl (kc_sheet hA hg2 hC lsc_c) (by decide) mi_X11_sheet lk_L_115 rfl (Nat.le_of_ble_eq_true rfl) rfl rfl dL_law_884 ?_
  intro v1 μ1 h1
  obtain ⟨rfl, n1, S1, M1, L1, P1, rfl, hn0, hS1, hC1, hA1, hM1, hP1⟩ := h1
  obtain ⟨hR1, hr1, hn1⟩ := lw_mid hI hn0 hS1 hM1 hP1
  refine LL_r1 ?_
  refine LL_aload_n dL_law_887 rfl rfl ?_
  refine LL_aload_n dL_law_888 rfl rfl ?_
  refine LL_iload_n dL_law_889 rfl rfl ?_
  refine LL_iconst (v := 1) dL_law_890 rfl ?_
  refine LL_iadd dL_law_891 ?_
  refine LL_sld (j := i + 1) (nI_add i 1) (by omega) hL dL_law_892 ?_
  refine LL_aload_n dL_law_893 rfl rfl ?_
  refine LL_iload_n dL_law_894 rfl rfl ?_
  refine LL_iconst (v := 2) dL_law_895 rfl ?_
  refine LL_iadd dL_law_896 ?_
  refine LL_sld (j := i + 2) (nI_add i 2) (by omega) hL dL_law_897 ?_
  refine LL_aload_n dL_law_898 rfl rfl ?_
  refine LL_iload_n dL_law_899 rfl rfl ?_
  refine LL_iconst (v := 3) dL_law_900 rfl ?_
  refine LL_iadd dL_law_901 ?_
  refine LL_sld (j := i + 3) (nI_add i 3) (by omega) hL dL_law_902 ?_
  refine LL_callV (kc' := 6 * (d + 1)) (ks' := 12 * (d + 1)) (rest := [.int (zr_sheet A (xs (i + 1)) (xs (i + 2)) (xs (i + 3))).1]) hR1.1 (rfl : vwCl[12]? = some (RX12, TX12, 51)) rfl (kr_sheet0 hr1 hg2 hR1 lsc_r) (by decide) mi_X12_sheet lk_L_118 rfl (Nat.le_of_ble_eq_true rfl) rfl rfl dL_law_903 ?_
  intro v2 μ2 h2
  obtain ⟨rfl, M3, rfl, hr2, hf⟩ := h2
  have hI2 : LINV x n1 S1 M3 P1 (zr_sheet A (xs (i + 1)) (xs (i + 2)) (xs (i + 3))).2 := lw_end hC1 hA1 hR1 hn1 hr2 (fun b k z => hf b k (Or.inr (Or.inr z))) (rng3_sheet hg3)
  refine LL_r1 ?_
  refine LL_icmp_eq (tgt := 1103) dL_law_906 (by decide) rfl ?_
  exact LL.fewer (by omega) (by omega) (kend _ _ _ _ _ _ hI2)
set_option maxHeartbeats 4000000 in
set_option maxRecDepth 100000 in
theorem lw_cell (hI : LINV x n S M P A) (hL : Ln ≤ 3072) (hi : i + 6 ≤ Ln) (kend : ∀ (n : Nat) (S : Nat → Nat × Nat) (M : Nat → Nat → Int32) (L : Nat → Nat → Int64) (P : Nat → Nat → Option Nat) (A : Abs), LINV x n S M P A → LL G (lsc x) b Ln xs (6 * d) (12 * d) 1103 [(3, .int (nI i)), (2, .ref (x + 75)), (1, .ref x), (0, .ref b)] [] (n, S, M, L, P)) : LL G (lsc x) b Ln xs (6 * (d + 1)) (12 * (d + 1)) 911 [(3, .int (nI i)), (2, .ref (x + 75)), (1, .ref x), (0, .ref b)] [] (n, S, M, L, P) := by
  obtain ⟨hC, hA, hR, hr, hg3, hn⟩ := id hI
  have hg2 : RNG2 A := hg3.1
  have hg : RNG A := hg2.1
  refine LL_aload_n dL_law_911 rfl rfl ?_
  refine LL_aload_n dL_law_912 rfl rfl ?_
  refine LL_iload_n dL_law_913 rfl rfl ?_
  refine LL_iconst (v := 1) dL_law_914 rfl ?_
  refine LL_iadd dL_law_915 ?_
  refine LL_sld (j := i + 1) (nI_add i 1) (by omega) hL dL_law_916 ?_
  refine LL_aload_n dL_law_917 rfl rfl ?_
  refine LL_iload_n dL_law_918 rfl rfl ?_
  refine LL_iconst (v := 2) dL_law_919 rfl ?_
  refine LL_iadd dL_law_920 ?_
  refine LL_sld (j := i + 2) (nI_add i 2) (by omega) hL dL_law_921 ?_
  refine LL_aload_n dL_law_922 rfl rfl ?_
  refine LL_iload_n dL_law_923 rfl rfl ?_
  refine LL_iconst (v := 3) dL_law_924 rfl ?_
  refine LL_iadd dL_law_925 ?_
  refine LL_sld (j := i + 3) (nI_add i 3) (by omega) hL dL_law_926 ?_
  refine LL_callV (kc' := 6 * (d + 1)) (ks' := 12 * (d + 1)) (rest := []) (congrArg Prod.fst (hC.sh (t := 0) (k := 12) (m := 0) (by decide))) (rfl : vwCl[11]? = some (RX11, TX11, 19)) rfl (kc_cell hA hg2 hC lsc_c) (by decide) mi_X11_cell lk_L_119 rfl (Nat.le_of_ble_eq_true rfl) rfl rfl dL_law_927 ?_
  intro v1 μ1 h1
  obtain ⟨rfl, n1, S1, M1, L1, P1, rfl, hn0, hS1, hC1, hA1, hM1, hP1⟩ := h1
  obtain ⟨hR1, hr1, hn1⟩ := lw_mid hI hn0 hS1 hM1 hP1
  refine LL_r1 ?_
  refine LL_aload_n dL_law_930 rfl rfl ?_
  refine LL_aload_n dL_law_931 rfl rfl ?_
  refine LL_iload_n dL_law_932 rfl rfl ?_
  refine LL_iconst (v := 1) dL_law_933 rfl ?_
  refine LL_iadd dL_law_934 ?_
  refine LL_sld (j := i + 1) (nI_add i 1) (by omega) hL dL_law_935 ?_
  refine LL_aload_n dL_law_936 rfl rfl ?_
  refine LL_iload_n dL_law_937 rfl rfl ?_
  refine LL_iconst (v := 2) dL_law_938 rfl ?_
  refine LL_iadd dL_law_939 ?_
  refine LL_sld (j := i + 2) (nI_add i 2) (by omega) hL dL_law_940 ?_
  refine LL_aload_n dL_law_941 rfl rfl ?_
  refine LL_iload_n dL_law_942 rfl rfl ?_
  refine LL_iconst (v := 3) dL_law_943 rfl ?_
  refine LL_iadd dL_law_944 ?_
  refine LL_sld (j := i + 3) (nI_add i 3) (by omega) hL dL_law_945 ?_
  refine LL_callV (kc' := 6 * (d + 1)) (ks' := 12 * (d + 1)) (rest := [.int (zr_cell A (xs (i + 1)) (xs (i + 2)) (xs (i + 3))).1]) hR1.1 (rfl : vwCl[12]? = some (RX12, TX12, 51)) rfl (kr_cell hr1 hg2 hR1 lsc_r) (by decide) mi_X12_cell lk_L_122 rfl (Nat.le_of_ble_eq_true rfl) rfl rfl dL_law_946 ?_
  intro v2 μ2 h2
  obtain ⟨rfl, M3, L3, rfl, hr2, hf⟩ := h2
  have hI2 : LINV x n1 S1 M3 P1 (zr_cell A (xs (i + 1)) (xs (i + 2)) (xs (i + 3))).2 := lw_end hC1 hA1 hR1 hn1 hr2 hf (rng3_cell hg3)
  refine LL_r1 ?_
  refine LL_icmp_eq (tgt := 1103) dL_law_949 (by decide) rfl ?_
  exact LL.fewer (by omega) (by omega) (kend _ _ _ _ _ _ hI2)
set_option maxHeartbeats 4000000 in
set_option maxRecDepth 100000 in
theorem lw_copy (hI : LINV x n S M P A) (hL : Ln ≤ 3072) (hi : i + 6 ≤ Ln) (kend : ∀ (n : Nat) (S : Nat → Nat × Nat) (M : Nat → Nat → Int32) (L : Nat → Nat → Int64) (P : Nat → Nat → Option Nat) (A : Abs), LINV x n S M P A → LL G (lsc x) b Ln xs (6 * d) (12 * d) 1103 [(3, .int (nI i)), (2, .ref (x + 75)), (1, .ref x), (0, .ref b)] [] (n, S, M, L, P)) : LL G (lsc x) b Ln xs (6 * (d + 1)) (12 * (d + 1)) 954 [(3, .int (nI i)), (2, .ref (x + 75)), (1, .ref x), (0, .ref b)] [] (n, S, M, L, P) := by
  obtain ⟨hC, hA, hR, hr, hg3, hn⟩ := id hI
  have hg2 : RNG2 A := hg3.1
  have hg : RNG A := hg2.1
  refine LL_aload_n dL_law_954 rfl rfl ?_
  refine LL_aload_n dL_law_955 rfl rfl ?_
  refine LL_iload_n dL_law_956 rfl rfl ?_
  refine LL_iconst (v := 1) dL_law_957 rfl ?_
  refine LL_iadd dL_law_958 ?_
  refine LL_sld (j := i + 1) (nI_add i 1) (by omega) hL dL_law_959 ?_
  refine LL_aload_n dL_law_960 rfl rfl ?_
  refine LL_iload_n dL_law_961 rfl rfl ?_
  refine LL_iconst (v := 2) dL_law_962 rfl ?_
  refine LL_iadd dL_law_963 ?_
  refine LL_sld (j := i + 2) (nI_add i 2) (by omega) hL dL_law_964 ?_
  refine LL_aload_n dL_law_965 rfl rfl ?_
  refine LL_iload_n dL_law_966 rfl rfl ?_
  refine LL_iconst (v := 3) dL_law_967 rfl ?_
  refine LL_iadd dL_law_968 ?_
  refine LL_sld (j := i + 3) (nI_add i 3) (by omega) hL dL_law_969 ?_
  refine LL_aload_n dL_law_970 rfl rfl ?_
  refine LL_iload_n dL_law_971 rfl rfl ?_
  refine LL_iconst (v := 4) dL_law_972 rfl ?_
  refine LL_iadd dL_law_973 ?_
  refine LL_sld (j := i + 4) (nI_add i 4) (by omega) hL dL_law_974 ?_
  refine LL_aload_n dL_law_975 rfl rfl ?_
  refine LL_iload_n dL_law_976 rfl rfl ?_
  refine LL_iconst (v := 5) dL_law_977 rfl ?_
  refine LL_iadd dL_law_978 ?_
  refine LL_sld (j := i + 5) (nI_add i 5) (by omega) hL dL_law_979 ?_
  refine LL_callV (kc' := 6 * (d + 1)) (ks' := 12 * (d + 1)) (rest := []) (congrArg Prod.fst (hC.sh (t := 0) (k := 12) (m := 0) (by decide))) (rfl : vwCl[11]? = some (RX11, TX11, 19)) rfl (kc_copy hA hg2 hC lsc_c) (by decide) mi_X11_copy lk_L_123 rfl (Nat.le_of_ble_eq_true rfl) rfl rfl dL_law_980 ?_
  intro v1 μ1 h1
  obtain ⟨rfl, n1, S1, M1, L1, P1, rfl, hn0, hS1, hC1, hA1, hM1, hP1⟩ := h1
  obtain ⟨hR1, hr1, hn1⟩ := lw_mid hI hn0 hS1 hM1 hP1
  refine LL_r1 ?_
  refine LL_aload_n dL_law_983 rfl rfl ?_
  refine LL_aload_n dL_law_984 rfl rfl ?_
  refine LL_iload_n dL_law_985 rfl rfl ?_
  refine LL_iconst (v := 1) dL_law_986 rfl ?_
  refine LL_iadd dL_law_987 ?_
  refine LL_sld (j := i + 1) (nI_add i 1) (by omega) hL dL_law_988 ?_
  refine LL_aload_n dL_law_989 rfl rfl ?_
  refine LL_iload_n dL_law_990 rfl rfl ?_
  refine LL_iconst (v := 2) dL_law_991 rfl ?_
  refine LL_iadd dL_law_992 ?_
  refine LL_sld (j := i + 2) (nI_add i 2) (by omega) hL dL_law_993 ?_
  refine LL_aload_n dL_law_994 rfl rfl ?_
  refine LL_iload_n dL_law_995 rfl rfl ?_
  refine LL_iconst (v := 3) dL_law_996 rfl ?_
  refine LL_iadd dL_law_997 ?_
  refine LL_sld (j := i + 3) (nI_add i 3) (by omega) hL dL_law_998 ?_
  refine LL_aload_n dL_law_999 rfl rfl ?_
  refine LL_iload_n dL_law_1000 rfl rfl ?_
  refine LL_iconst (v := 4) dL_law_1001 rfl ?_
  refine LL_iadd dL_law_1002 ?_
  refine LL_sld (j := i + 4) (nI_add i 4) (by omega) hL dL_law_1003 ?_
  refine LL_aload_n dL_law_1004 rfl rfl ?_
  refine LL_iload_n dL_law_1005 rfl rfl ?_
  refine LL_iconst (v := 5) dL_law_1006 rfl ?_
  refine LL_iadd dL_law_1007 ?_
  refine LL_sld (j := i + 5) (nI_add i 5) (by omega) hL dL_law_1008 ?_
  refine LL_callV (kc' := 6 * (d + 1)) (ks' := 12 * (d + 1)) (rest := [.int (zr_copy A (xs (i + 1)) (xs (i + 2)) (xs (i + 3)) (xs (i + 4)) (xs (i + 5))).1]) hR1.1 (rfl : vwCl[12]? = some (RX12, TX12, 51)) rfl (kr_copy hr1 hg2 hR1 lsc_r) (by decide) mi_X12_copy lk_L_127 rfl (Nat.le_of_ble_eq_true rfl) rfl rfl dL_law_1009 ?_
  intro v2 μ2 h2
  obtain ⟨rfl, M3, L3, rfl, hr2, hf⟩ := h2
  have hI2 : LINV x n1 S1 M3 P1 (zr_copy A (xs (i + 1)) (xs (i + 2)) (xs (i + 3)) (xs (i + 4)) (xs (i + 5))).2 := lw_end hC1 hA1 hR1 hn1 hr2 hf (rng3_copy hg3)
  refine LL_r1 ?_
  refine LL_icmp_eq (tgt := 1103) dL_law_1012 (by decide) rfl ?_
  exact LL.fewer (by omega) (by omega) (kend _ _ _ _ _ _ hI2)
set_option maxHeartbeats 4000000 in
set_option maxRecDepth 100000 in
theorem lw_strokes (hI : LINV x n S M P A) (hL : Ln ≤ 3072) (hi : i + 6 ≤ Ln) (kend : ∀ (n : Nat) (S : Nat → Nat × Nat) (M : Nat → Nat → Int32) (L : Nat → Nat → Int64) (P : Nat → Nat → Option Nat) (A : Abs), LINV x n S M P A → LL G (lsc x) b Ln xs (6 * d) (12 * d) 1103 [(3, .int (nI i)), (2, .ref (x + 75)), (1, .ref x), (0, .ref b)] [] (n, S, M, L, P)) : LL G (lsc x) b Ln xs (6 * (d + 1)) (12 * (d + 1)) 1017 [(3, .int (nI i)), (2, .ref (x + 75)), (1, .ref x), (0, .ref b)] [] (n, S, M, L, P) := by
  obtain ⟨hC, hA, hR, hr, hg3, hn⟩ := id hI
  have hg2 : RNG2 A := hg3.1
  have hg : RNG A := hg2.1
  refine LL_aload_n dL_law_1017 rfl rfl ?_
  refine LL_aload_n dL_law_1018 rfl rfl ?_
  refine LL_iload_n dL_law_1019 rfl rfl ?_
  refine LL_iconst (v := 1) dL_law_1020 rfl ?_
  refine LL_iadd dL_law_1021 ?_
  refine LL_sld (j := i + 1) (nI_add i 1) (by omega) hL dL_law_1022 ?_
  refine LL_aload_n dL_law_1023 rfl rfl ?_
  refine LL_iload_n dL_law_1024 rfl rfl ?_
  refine LL_iconst (v := 2) dL_law_1025 rfl ?_
  refine LL_iadd dL_law_1026 ?_
  refine LL_sld (j := i + 2) (nI_add i 2) (by omega) hL dL_law_1027 ?_
  refine LL_aload_n dL_law_1028 rfl rfl ?_
  refine LL_iload_n dL_law_1029 rfl rfl ?_
  refine LL_iconst (v := 3) dL_law_1030 rfl ?_
  refine LL_iadd dL_law_1031 ?_
  refine LL_sld (j := i + 3) (nI_add i 3) (by omega) hL dL_law_1032 ?_
  refine LL_aload_n dL_law_1033 rfl rfl ?_
  refine LL_iload_n dL_law_1034 rfl rfl ?_
  refine LL_iconst (v := 4) dL_law_1035 rfl ?_
  refine LL_iadd dL_law_1036 ?_
  refine LL_sld (j := i + 4) (nI_add i 4) (by omega) hL dL_law_1037 ?_
  refine LL_callV (kc' := 6 * d + 0) (ks' := 12 * d + 0) (rest := []) (congrArg Prod.fst (hC.sh (t := 0) (k := 12) (m := 0) (by decide))) (rfl : vwCl[11]? = some (RX11, TX11, 19)) rfl (kc_strokes hn hA hg3 hC lsc_c) (by decide) mi_X11_strokes lk_L_128 rfl (Nat.le_of_ble_eq_true rfl) (by omega) (by omega) dL_law_1038 ?_
  intro v1 μ1 h1
  obtain ⟨rfl, n1, S1, M1, L1, P1, rfl, hn0, hS1, hC1, hA1, hM1, hP1⟩ := h1
  obtain ⟨hR1, hr1, hn1⟩ := lw_mid hI hn0 hS1 hM1 hP1
  refine LL_r1 ?_
  refine LL_aload_n dL_law_1041 rfl rfl ?_
  refine LL_aload_n dL_law_1042 rfl rfl ?_
  refine LL_iload_n dL_law_1043 rfl rfl ?_
  refine LL_iconst (v := 1) dL_law_1044 rfl ?_
  refine LL_iadd dL_law_1045 ?_
  refine LL_sld (j := i + 1) (nI_add i 1) (by omega) hL dL_law_1046 ?_
  refine LL_aload_n dL_law_1047 rfl rfl ?_
  refine LL_iload_n dL_law_1048 rfl rfl ?_
  refine LL_iconst (v := 2) dL_law_1049 rfl ?_
  refine LL_iadd dL_law_1050 ?_
  refine LL_sld (j := i + 2) (nI_add i 2) (by omega) hL dL_law_1051 ?_
  refine LL_aload_n dL_law_1052 rfl rfl ?_
  refine LL_iload_n dL_law_1053 rfl rfl ?_
  refine LL_iconst (v := 3) dL_law_1054 rfl ?_
  refine LL_iadd dL_law_1055 ?_
  refine LL_sld (j := i + 3) (nI_add i 3) (by omega) hL dL_law_1056 ?_
  refine LL_aload_n dL_law_1057 rfl rfl ?_
  refine LL_iload_n dL_law_1058 rfl rfl ?_
  refine LL_iconst (v := 4) dL_law_1059 rfl ?_
  refine LL_iadd dL_law_1060 ?_
  refine LL_sld (j := i + 4) (nI_add i 4) (by omega) hL dL_law_1061 ?_
  refine LL_callV (kc' := 6 * d + 0) (ks' := 12 * d + 0) (rest := [.int (zr_strokes A (xs (i + 1)) (xs (i + 2)) (xs (i + 3)) (xs (i + 4))).1]) hR1.1 (rfl : vwCl[12]? = some (RX12, TX12, 51)) rfl (kr_strokesP hr1 hg2 hR1 lsc_r) (by decide) mi_X12_strokes lk_L_132 rfl (Nat.le_of_ble_eq_true rfl) rfl rfl dL_law_1062 ?_
  intro v2 μ2 h2
  obtain ⟨rfl, M3, L3, rfl, hr2, hf⟩ := h2
  have hI2 : LINV x n1 S1 M3 P1 (zr_strokes A (xs (i + 1)) (xs (i + 2)) (xs (i + 3)) (xs (i + 4))).2 := lw_end hC1 hA1 hR1 hn1 hr2 hf (rng3_strokes hg3)
  refine LL_r1 ?_
  refine LL_icmp_eq (tgt := 1103) dL_law_1065 (by decide) rfl ?_
  exact LL.fewer (by omega) (by omega) (kend _ _ _ _ _ _ hI2)
set_option maxHeartbeats 4000000 in
set_option maxRecDepth 100000 in
theorem lw_taken (hI : LINV x n S M P A) (hL : Ln ≤ 3072) (hi : i + 6 ≤ Ln) (kend : ∀ (n : Nat) (S : Nat → Nat × Nat) (M : Nat → Nat → Int32) (L : Nat → Nat → Int64) (P : Nat → Nat → Option Nat) (A : Abs), LINV x n S M P A → LL G (lsc x) b Ln xs (6 * d) (12 * d) 1103 [(3, .int (nI i)), (2, .ref (x + 75)), (1, .ref x), (0, .ref b)] [] (n, S, M, L, P)) : LL G (lsc x) b Ln xs (6 * (d + 1)) (12 * (d + 1)) 1070 [(3, .int (nI i)), (2, .ref (x + 75)), (1, .ref x), (0, .ref b)] [] (n, S, M, L, P) := by
  obtain ⟨hC, hA, hR, hr, hg3, hn⟩ := id hI
  have hg2 : RNG2 A := hg3.1
  have hg : RNG A := hg2.1
  refine LL_aload_n dL_law_1070 rfl rfl ?_
  refine LL_aload_n dL_law_1071 rfl rfl ?_
  refine LL_iload_n dL_law_1072 rfl rfl ?_
  refine LL_iconst (v := 1) dL_law_1073 rfl ?_
  refine LL_iadd dL_law_1074 ?_
  refine LL_sld (j := i + 1) (nI_add i 1) (by omega) hL dL_law_1075 ?_
  refine LL_aload_n dL_law_1076 rfl rfl ?_
  refine LL_iload_n dL_law_1077 rfl rfl ?_
  refine LL_iconst (v := 2) dL_law_1078 rfl ?_
  refine LL_iadd dL_law_1079 ?_
  refine LL_sld (j := i + 2) (nI_add i 2) (by omega) hL dL_law_1080 ?_
  refine LL_callV (kc' := 6 * (d + 1)) (ks' := 12 * (d + 1)) (rest := []) (congrArg Prod.fst (hC.sh (t := 0) (k := 12) (m := 0) (by decide))) (rfl : vwCl[11]? = some (RX11, TX11, 19)) rfl (kc_taken hA hg2 hC lsc_c) (by decide) mi_X11_taken lk_L_133 rfl (Nat.le_of_ble_eq_true rfl) rfl rfl dL_law_1081 ?_
  intro v1 μ1 h1
  obtain ⟨rfl, rfl⟩ := h1
  obtain ⟨hC1, hA1, hR1, hr1, hn1⟩ : CWF x S P ∧ cABS x n S P M A ∧ RWF (x + 75) S P ∧ rABS (x + 75) M A ∧ x + 94 ≤ n := ⟨hC, hA, hR, hr, hn⟩
  refine LL_r1 ?_
  refine LL_aload_n dL_law_1084 rfl rfl ?_
  refine LL_aload_n dL_law_1085 rfl rfl ?_
  refine LL_iload_n dL_law_1086 rfl rfl ?_
  refine LL_iconst (v := 1) dL_law_1087 rfl ?_
  refine LL_iadd dL_law_1088 ?_
  refine LL_sld (j := i + 1) (nI_add i 1) (by omega) hL dL_law_1089 ?_
  refine LL_aload_n dL_law_1090 rfl rfl ?_
  refine LL_iload_n dL_law_1091 rfl rfl ?_
  refine LL_iconst (v := 2) dL_law_1092 rfl ?_
  refine LL_iadd dL_law_1093 ?_
  refine LL_sld (j := i + 2) (nI_add i 2) (by omega) hL dL_law_1094 ?_
  refine LL_callV (kc' := 6 * (d + 1)) (ks' := 12 * (d + 1)) (rest := [.int (zr_taken A (xs (i + 1)) (xs (i + 2)))]) hR1.1 (rfl : vwCl[12]? = some (RX12, TX12, 51)) rfl (kr_taken hr1 hg2 hR1 lsc_r) (by decide) mi_X12_taken lk_L_136 rfl (Nat.le_of_ble_eq_true rfl) rfl rfl dL_law_1095 ?_
  intro v2 μ2 h2
  obtain ⟨rfl, rfl⟩ := h2
  have hI2 : LINV x n S M P A := lw_end hC1 hA1 hR1 hn1 hr1 (fun _ _ _ => rfl) hg3
  refine LL_r1 ?_
  refine LL_icmp_eq (tgt := 1103) dL_law_1098 (by decide) rfl ?_
  exact LL.fewer (by omega) (by omega) (kend _ _ _ _ _ _ hI2)
end LW23
