section C39
variable {G : Gx} {sc : Nat → Nat → Prop} {n : Nat} {S : Nat → Nat × Nat} {M : Nat → Nat → Int32} {L : Nat → Nat → Int64} {P : Nat → Nat → Option Nat} {x : Nat}

set_option maxHeartbeats 4000000 in
set_option maxRecDepth 100000 in
theorem kc_Pinit {a : Nat} (ha : S a = (7, 0)) : KK G sc yX6_init cX6_init 1 none 1 0 0 [.ref a] (n, S, M, L, P) (fun v μ => v = none ∧ ∃ M', μ = (n, S, M', L, P) ∧ (M' a 0 = 12 ∧ M' a 1 = 500 ∧ M' a 2 = 5 ∧ M' a 3 = 12) ∧ ∀ b k, b ≠ a → M' b k = M b k) := by
  refine KK_of2 [(0, .ref a)] (by decide +kernel) (Nat.le_of_ble_eq_true rfl) rfl ?_
  refine JJ_aload_n dX6_init_0 rfl rfl ?_
  refine JJ_objInit lk_X6_3 tb_92 tb_93 (Nat.le_of_ble_eq_true rfl) dX6_init_1 ?_
  refine JJ_aload_n dX6_init_4 rfl rfl ?_
  refine JJ_bipush (v := 12) dX6_init_5 rfl ?_
  refine JJ_puti (cis := [6]) (k := 0) fa_X6_9 (by decide) (congrArg Prod.fst ha) rfl (fun r hr => by cases hr; exact ⟨rfl, by decide +kernel⟩) dX6_init_7 (fun M1 hM2 => ?_)
  refine JJ_aload_n dX6_init_10 rfl rfl ?_
  refine JJ_sipush (v := 500) dX6_init_11 rfl ?_
  refine JJ_puti (cis := [6]) (k := 1) fa_X6_15 (by decide) (congrArg Prod.fst ha) rfl (fun r hr => by cases hr; exact ⟨rfl, by decide +kernel⟩) dX6_init_14 (fun M3 hM4 => ?_)
  refine JJ_aload_n dX6_init_17 rfl rfl ?_
  refine JJ_iconst (v := 5) dX6_init_18 rfl ?_
  refine JJ_puti (cis := [6]) (k := 2) fa_X6_18 (by decide) (congrArg Prod.fst ha) rfl (fun r hr => by cases hr; exact ⟨rfl, by decide +kernel⟩) dX6_init_19 (fun M5 hM6 => ?_)
  refine JJ_aload_n dX6_init_22 rfl rfl ?_
  refine JJ_bipush (v := 12) dX6_init_23 rfl ?_
  refine JJ_puti (cis := [6]) (k := 3) fa_X6_21 (by decide) (congrArg Prod.fst ha) rfl (fun r hr => by cases hr; exact ⟨rfl, by decide +kernel⟩) dX6_init_25 (fun M7 hM8 => ?_)
  refine JJ_vret dX6_init_28 rfl ?_
  exact ⟨rfl, M7, rfl, ⟨(rd_n hM8 (by omega) (rd_n hM6 (by omega) (rd_n hM4 (by omega) (rd_s hM2)))), (rd_n hM8 (by omega) (rd_n hM6 (by omega) (rd_s hM4))), (rd_n hM8 (by omega) (rd_s hM6)), (rd_s hM8)⟩, fun b k z => (rd_n hM8 (by omega) (rd_n hM6 (by omega) (rd_n hM4 (by omega) (rd_n hM2 (by omega) rfl))))⟩
set_option maxHeartbeats 4000000 in
set_option maxRecDepth 100000 in
theorem kc_Cinit {c t n2 : Nat} (hc : S c = (2, 0)) (e2 : c + 3 = n2) : KK G sc yX1_init cX1_init 2 none 2 2 8 [.ref c, .ref t] (c + 1, S, M, L, P) (fun v μ => v = none ∧ ∃ S' M' L' P', μ = (n2, S', M', L', P') ∧ (S' (c + 1) = (7, 0) ∧ S' (c + 2) = (7, 0)) ∧ (P' c 0 = some (c + 1) ∧ P' c 1 = some (c + 2) ∧ P' c 3 = some t) ∧ M' c 2 = 0 ∧ (M' (c + 1) 0 = 12 ∧ M' (c + 1) 1 = 500 ∧ M' (c + 1) 2 = 5 ∧ M' (c + 1) 3 = 12) ∧ (M' (c + 2) 0 = 12 ∧ M' (c + 2) 1 = 500 ∧ M' (c + 2) 2 = 5 ∧ M' (c + 2) 3 = 12) ∧ (∀ b, b ≤ c → S' b = S b) ∧ (∀ b k, b < c → P' b k = P b k) ∧ ∀ b k, b < c → M' b k = M b k) := by
  refine KK_of2 [(0, .ref c), (1, .ref t)] (by decide +kernel) (Nat.le_of_ble_eq_true rfl) rfl ?_
  refine JJ_aload_n dX1_init_0 rfl rfl ?_
  refine JJ_objInit lk_X1_3 tb_92 tb_93 (Nat.le_of_ble_eq_true rfl) dX1_init_1 ?_
  refine JJ_aload_n dX1_init_4 rfl rfl ?_
  refine JJ_new (ci := 6) (kc' := 1) (ks' := 4) rfl tb_328 tb_329 tb_74 rfl rfl dX1_init_5 ?_
  refine JJ_gn (n1 := c + 2) (by omega) (fun Sa Ma La Pa hSa hMa hLa hPa => ?_)
  refine JJ_dup dX1_init_8 rfl ?_
  refine JJ_callIN (rest := [.ref (c + 1), .ref c]) rfl (kc_Pinit (a := c + 1) (gS_s hSa)) (by omega) mi_X6_init lk_X1_11 rfl (Nat.le_of_ble_eq_true rfl) rfl rfl dX1_init_9 ?_
  intro v1 μ2 h3
  obtain ⟨rfl, Mp1, rfl, hp1, hfp1⟩ := h3
  refine JJ_r0 ?_
  refine JJ_putFr (ty := .object "MiddleOfCourt$Player") (cis := [1]) (k := 0) fa_X1_12 (by decide) (congrArg Prod.fst (gS_n hSa (by omega) hc)) rfl (fun r hr => by cases hr; exact ⟨⟨rfl, rfl⟩, by decide +kernel⟩) rfl rfl rfl dX1_init_12 (fun P4 hP5 => ?_)
  refine JJ_aload_n dX1_init_15 rfl rfl ?_
  refine JJ_new (ci := 6) (kc' := 0) (ks' := 0) rfl tb_328 tb_329 tb_74 rfl rfl dX1_init_16 ?_
  refine JJ_gn (n1 := c + 3) (by omega) (fun Sb Mb Lb Pb hSb hMb hLb hPb => ?_)
  refine JJ_dup dX1_init_19 rfl ?_
  refine JJ_callIN (rest := [.ref (c + 2), .ref c]) rfl (kc_Pinit (a := c + 2) (gS_s hSb)) (by omega) mi_X6_init lk_X1_11 rfl (Nat.le_of_ble_eq_true rfl) rfl rfl dX1_init_20 ?_
  intro v6 μ7 h8
  obtain ⟨rfl, Mp2, rfl, hp2, hfp2⟩ := h8
  refine JJ_r0 ?_
  refine JJ_putFr (ty := .object "MiddleOfCourt$Player") (cis := [1]) (k := 1) fa_X1_18 (by decide) (congrArg Prod.fst (gS_n hSb (by omega) (gS_n hSa (by omega) hc))) rfl (fun r hr => by cases hr; exact ⟨⟨rfl, rfl⟩, by decide +kernel⟩) rfl rfl rfl dX1_init_23 (fun P9 hP10 => ?_)
  refine JJ_aload_n dX1_init_26 rfl rfl ?_
  refine JJ_iconst (v := 0) dX1_init_27 rfl ?_
  refine JJ_puti (cis := [1]) (k := 2) fa_X1_21 (by decide) (congrArg Prod.fst (gS_n hSb (by omega) (gS_n hSa (by omega) hc))) rfl (fun r hr => by cases hr; exact ⟨rfl, by decide +kernel⟩) dX1_init_28 (fun M11 hM12 => ?_)
  refine JJ_aload_n dX1_init_31 rfl rfl ?_
  refine JJ_aload_n dX1_init_32 rfl rfl ?_
  refine JJ_putr (ty := .object "MiddleOfCourt$Text") (cis := [1]) (k := 3) fa_X1_25 (by decide) (congrArg Prod.fst (gS_n hSb (by omega) (gS_n hSa (by omega) hc))) rfl (fun r hr => by cases hr; exact ⟨rfl, by decide +kernel⟩) rfl rfl dX1_init_33 (fun P13 hP14 => ?_)
  refine JJ_vret dX1_init_36 rfl ?_
  exact ⟨rfl, Sb, M11, Lb, P13, (by rw [e2]), ⟨(gS_n hSb (by omega) (gS_s hSa)), (gS_s hSb)⟩, ⟨(rd_n hP14 (by omega) (rd_n hP10 (by omega) (gR_n hPb (by omega) (rd_s hP5)))), (rd_n hP14 (by omega) (rd_s hP10)), (rd_s hP14)⟩, (rd_s hM12), ⟨(rd_n hM12 (by omega) ((hfp2 _ _ (by omega)).trans (gR_n hMb (by omega) hp1.1))), (rd_n hM12 (by omega) ((hfp2 _ _ (by omega)).trans (gR_n hMb (by omega) hp1.2.1))), (rd_n hM12 (by omega) ((hfp2 _ _ (by omega)).trans (gR_n hMb (by omega) hp1.2.2.1))), (rd_n hM12 (by omega) ((hfp2 _ _ (by omega)).trans (gR_n hMb (by omega) hp1.2.2.2)))⟩, ⟨(rd_n hM12 (by omega) hp2.1), (rd_n hM12 (by omega) hp2.2.1), (rd_n hM12 (by omega) hp2.2.2.1), (rd_n hM12 (by omega) hp2.2.2.2)⟩, fun b z => (gS_n hSb (by omega) (gS_n hSa (by omega) rfl)), fun b k z => (rd_n hP14 (by omega) (rd_n hP10 (by omega) (gR_n hPb (by omega) (rd_n hP5 (by omega) (gR_n hPa (by omega) rfl))))), fun b k z => (rd_n hM12 (by omega) ((hfp2 _ _ (by omega)).trans (gR_n hMb (by omega) ((hfp1 _ _ (by omega)).trans (gR_n hMa (by omega) rfl)))))⟩
set_option maxHeartbeats 4000000 in
set_option maxRecDepth 100000 in
theorem kc_Kinit {a n2 : Nat} (ha : S a = (10, 0)) (e2 : a + 2 = n2) : KK G sc yX9_init cX9_init 1 none 1 1 160 [.ref a] (a + 1, S, M, L, P) (fun v μ => v = none ∧ ∃ S' M' L' P', μ = (n2, S', M', L', P') ∧ (S' (a + 1) = (20, 160)) ∧ P' a 0 = some (a + 1) ∧ M' a 1 = 0 ∧ (∀ b, b ≤ a → S' b = S b) ∧ (∀ b k, b < a → P' b k = P b k) ∧ ∀ b k, b < a → M' b k = M b k) := by
  refine KK_of2 [(0, .ref a)] (by decide +kernel) (Nat.le_of_ble_eq_true rfl) rfl ?_
  refine JJ_aload_n dX9_init_0 rfl rfl ?_
  refine JJ_objInit lk_X9_3 tb_92 tb_93 (Nat.le_of_ble_eq_true rfl) dX9_init_1 ?_
  refine JJ_aload_n dX9_init_4 rfl rfl ?_
  refine JJ_sipush (v := 160) dX9_init_5 rfl ?_
  refine JJ_newa (atype := .int) (t := 0) (m := 160) (kc' := 0) (ks' := 0) (by decide) rfl tb_128 (by decide) rfl (by decide) rfl rfl dX9_init_8 ?_
  refine JJ_gn (n1 := a + 2) (by omega) (fun Sa Ma La Pa hSa hMa hLa hPa => ?_)
  refine JJ_putFr (ty := .array .int) (cis := [9]) (k := 0) fa_X9_9 (by decide) (congrArg Prod.fst (gS_n hSa (by omega) ha)) rfl (fun r hr => by cases hr; exact ⟨⟨rfl, rfl⟩, by decide +kernel⟩) rfl rfl rfl dX9_init_10 (fun P1 hP2 => ?_)
  refine JJ_aload_n dX9_init_13 rfl rfl ?_
  refine JJ_iconst (v := 0) dX9_init_14 rfl ?_
  refine JJ_puti (cis := [9]) (k := 1) fa_X9_15 (by decide) (congrArg Prod.fst (gS_n hSa (by omega) ha)) rfl (fun r hr => by cases hr; exact ⟨rfl, by decide +kernel⟩) dX9_init_15 (fun M3 hM4 => ?_)
  refine JJ_aload_n dX9_init_18 rfl rfl ?_
  refine JJ_null dX9_init_19 ?_
  refine JJ_putn (ty := .object "MiddleOfCourt$Text") (cis := [9]) (k := 2) fa_X9_19 (by decide) (congrArg Prod.fst (gS_n hSa (by omega) ha)) rfl (fun r hr => by cases hr; exact ⟨rfl, by decide +kernel⟩) rfl rfl dX9_init_20 (fun P5 hP6 => ?_)
  refine JJ_aload_n dX9_init_23 rfl rfl ?_
  refine JJ_iconst (v := 0) dX9_init_24 rfl ?_
  refine JJ_puti (cis := [9]) (k := 3) fa_X9_23 (by decide) (congrArg Prod.fst (gS_n hSa (by omega) ha)) rfl (fun r hr => by cases hr; exact ⟨rfl, by decide +kernel⟩) dX9_init_25 (fun M7 hM8 => ?_)
  refine JJ_aload_n dX9_init_28 rfl rfl ?_
  refine JJ_iconst (v := 0) dX9_init_29 rfl ?_
  refine JJ_puti (cis := [9]) (k := 4) fa_X9_26 (by decide) (congrArg Prod.fst (gS_n hSa (by omega) ha)) rfl (fun r hr => by cases hr; exact ⟨rfl, by decide +kernel⟩) dX9_init_30 (fun M9 hM10 => ?_)
  refine JJ_aload_n dX9_init_33 rfl rfl ?_
  refine JJ_iconst (v := 0) dX9_init_34 rfl ?_
  refine JJ_puti (cis := [9]) (k := 5) fa_X9_29 (by decide) (congrArg Prod.fst (gS_n hSa (by omega) ha)) rfl (fun r hr => by cases hr; exact ⟨rfl, by decide +kernel⟩) dX9_init_35 (fun M11 hM12 => ?_)
  refine JJ_aload_n dX9_init_38 rfl rfl ?_
  refine JJ_iconst (v := 0) dX9_init_39 rfl ?_
  refine JJ_puti (cis := [9]) (k := 6) fa_X9_32 (by decide) (congrArg Prod.fst (gS_n hSa (by omega) ha)) rfl (fun r hr => by cases hr; exact ⟨rfl, by decide +kernel⟩) dX9_init_40 (fun M13 hM14 => ?_)
  refine JJ_aload_n dX9_init_43 rfl rfl ?_
  refine JJ_iconst (v := (-1)) dX9_init_44 rfl ?_
  refine JJ_puti (cis := [9]) (k := 7) fa_X9_35 (by decide) (congrArg Prod.fst (gS_n hSa (by omega) ha)) rfl (fun r hr => by cases hr; exact ⟨rfl, by decide +kernel⟩) dX9_init_45 (fun M15 hM16 => ?_)
  refine JJ_vret dX9_init_48 rfl ?_
  exact ⟨rfl, Sa, M15, La, P5, (by rw [e2]), (gS_s hSa), (rd_n hP6 (by omega) (rd_s hP2)), (rd_n hM16 (by omega) (rd_n hM14 (by omega) (rd_n hM12 (by omega) (rd_n hM10 (by omega) (rd_n hM8 (by omega) (rd_s hM4)))))), fun b z => (gS_n hSa (by omega) rfl), fun b k z => (rd_n hP6 (by omega) (rd_n hP2 (by omega) (gR_n hPa (by omega) rfl))), fun b k z => (rd_n hM16 (by omega) (rd_n hM14 (by omega) (rd_n hM12 (by omega) (rd_n hM10 (by omega) (rd_n hM8 (by omega) (rd_n hM4 (by omega) (gR_n hMa (by omega) rfl)))))))⟩
set_option maxHeartbeats 4000000 in
set_option maxRecDepth 100000 in
theorem kc_Xinit {a n2 : Nat} {pl : Int32} (ha : S a = (11, 0)) (e2 : a + 5 = n2) : KK G sc yX10_init cX10_init 2 none 1 4 329 [.ref a, .int pl] (a + 1, S, M, L, P) (fun v μ => v = none ∧ ∃ S' M' L' P', μ = (n2, S', M', L', P') ∧ (S' (a + 1) = (20, 160) ∧ S' (a + 2) = (20, 160) ∧ S' (a + 3) = (20, 6) ∧ S' (a + 4) = (20, 3)) ∧ (P' a 1 = some (a + 1) ∧ P' a 2 = some (a + 2) ∧ P' a 3 = some (a + 3) ∧ P' a 4 = some (a + 4)) ∧ M' a 0 = pl ∧ (∀ b, b ≤ a → S' b = S b) ∧ (∀ b k, b < a → P' b k = P b k) ∧ ∀ b k, b < a → M' b k = M b k) := by
  refine KK_of2 [(0, .ref a), (1, .int pl)] (by decide +kernel) (Nat.le_of_ble_eq_true rfl) rfl ?_
  refine JJ_aload_n dX10_init_0 rfl rfl ?_
  refine JJ_objInit lk_X10_3 tb_92 tb_93 (Nat.le_of_ble_eq_true rfl) dX10_init_1 ?_
  refine JJ_aload_n dX10_init_4 rfl rfl ?_
  refine JJ_sipush (v := 160) dX10_init_5 rfl ?_
  refine JJ_newa (atype := .int) (t := 0) (m := 160) (kc' := 3) (ks' := 169) (by decide) rfl tb_128 (by decide) rfl (by decide) rfl rfl dX10_init_8 ?_
  refine JJ_gn (n1 := a + 2) (by omega) (fun Sa Ma La Pa hSa hMa hLa hPa => ?_)
  refine JJ_putFr (ty := .array .int) (cis := [10]) (k := 1) fa_X10_9 (by decide) (congrArg Prod.fst (gS_n hSa (by omega) ha)) rfl (fun r hr => by cases hr; exact ⟨⟨rfl, rfl⟩, by decide +kernel⟩) rfl rfl rfl dX10_init_10 (fun P1 hP2 => ?_)
  refine JJ_aload_n dX10_init_13 rfl rfl ?_
  refine JJ_sipush (v := 160) dX10_init_14 rfl ?_
  refine JJ_newa (atype := .int) (t := 0) (m := 160) (kc' := 2) (ks' := 9) (by decide) rfl tb_128 (by decide) rfl (by decide) rfl rfl dX10_init_17 ?_
  refine JJ_gn (n1 := a + 3) (by omega) (fun Sb Mb Lb Pb hSb hMb hLb hPb => ?_)
  refine JJ_putFr (ty := .array .int) (cis := [10]) (k := 2) fa_X10_15 (by decide) (congrArg Prod.fst (gS_n hSb (by omega) (gS_n hSa (by omega) ha))) rfl (fun r hr => by cases hr; exact ⟨⟨rfl, rfl⟩, by decide +kernel⟩) rfl rfl rfl dX10_init_19 (fun P3 hP4 => ?_)
  refine JJ_aload_n dX10_init_22 rfl rfl ?_
  refine JJ_bipush (v := 6) dX10_init_23 rfl ?_
  refine JJ_newa (atype := .int) (t := 0) (m := 6) (kc' := 1) (ks' := 3) (by decide) rfl tb_128 (by decide) rfl (by decide) rfl rfl dX10_init_25 ?_
  refine JJ_gn (n1 := a + 4) (by omega) (fun Sc Mc Lc Pc hSc hMc hLc hPc => ?_)
  refine JJ_putFr (ty := .array .int) (cis := [10]) (k := 3) fa_X10_18 (by decide) (congrArg Prod.fst (gS_n hSc (by omega) (gS_n hSb (by omega) (gS_n hSa (by omega) ha)))) rfl (fun r hr => by cases hr; exact ⟨⟨rfl, rfl⟩, by decide +kernel⟩) rfl rfl rfl dX10_init_27 (fun P5 hP6 => ?_)
  refine JJ_aload_n dX10_init_30 rfl rfl ?_
  refine JJ_iconst (v := 3) dX10_init_31 rfl ?_
  refine JJ_newa (atype := .int) (t := 0) (m := 3) (kc' := 0) (ks' := 0) (by decide) rfl tb_128 (by decide) rfl (by decide) rfl rfl dX10_init_32 ?_
  refine JJ_gn (n1 := a + 5) (by omega) (fun Sd Md Ld Pd hSd hMd hLd hPd => ?_)
  refine JJ_putFr (ty := .array .int) (cis := [10]) (k := 4) fa_X10_21 (by decide) (congrArg Prod.fst (gS_n hSd (by omega) (gS_n hSc (by omega) (gS_n hSb (by omega) (gS_n hSa (by omega) ha))))) rfl (fun r hr => by cases hr; exact ⟨⟨rfl, rfl⟩, by decide +kernel⟩) rfl rfl rfl dX10_init_34 (fun P7 hP8 => ?_)
  refine JJ_aload_n dX10_init_37 rfl rfl ?_
  refine JJ_iconst (v := 0) dX10_init_38 rfl ?_
  refine JJ_puti (cis := [10]) (k := 5) fa_X10_24 (by decide) (congrArg Prod.fst (gS_n hSd (by omega) (gS_n hSc (by omega) (gS_n hSb (by omega) (gS_n hSa (by omega) ha))))) rfl (fun r hr => by cases hr; exact ⟨rfl, by decide +kernel⟩) dX10_init_39 (fun M9 hM10 => ?_)
  refine JJ_aload_n dX10_init_42 rfl rfl ?_
  refine JJ_iload_n dX10_init_43 rfl rfl ?_
  refine JJ_putFi (cis := [10]) (k := 0) fa_X10_28 (by decide) (congrArg Prod.fst (gS_n hSd (by omega) (gS_n hSc (by omega) (gS_n hSb (by omega) (gS_n hSa (by omega) ha))))) rfl (fun r hr => by cases hr; exact ⟨⟨rfl, rfl⟩, by decide +kernel⟩) rfl dX10_init_44 (fun M11 hM12 => ?_)
  refine JJ_vret dX10_init_47 rfl ?_
  exact ⟨rfl, Sd, M11, Ld, P7, (by rw [e2]), ⟨(gS_n hSd (by omega) (gS_n hSc (by omega) (gS_n hSb (by omega) (gS_s hSa)))), (gS_n hSd (by omega) (gS_n hSc (by omega) (gS_s hSb))), (gS_n hSd (by omega) (gS_s hSc)), (gS_s hSd)⟩, ⟨(rd_n hP8 (by omega) (gR_n hPd (by omega) (rd_n hP6 (by omega) (gR_n hPc (by omega) (rd_n hP4 (by omega) (gR_n hPb (by omega) (rd_s hP2))))))), (rd_n hP8 (by omega) (gR_n hPd (by omega) (rd_n hP6 (by omega) (gR_n hPc (by omega) (rd_s hP4))))), (rd_n hP8 (by omega) (gR_n hPd (by omega) (rd_s hP6))), (rd_s hP8)⟩, (rd_s hM12), fun b z => (gS_n hSd (by omega) (gS_n hSc (by omega) (gS_n hSb (by omega) (gS_n hSa (by omega) rfl)))), fun b k z => (rd_n hP8 (by omega) (gR_n hPd (by omega) (rd_n hP6 (by omega) (gR_n hPc (by omega) (rd_n hP4 (by omega) (gR_n hPb (by omega) (rd_n hP2 (by omega) (gR_n hPa (by omega) rfl)))))))), fun b k z => (rd_n hM12 (by omega) (rd_n hM10 (by omega) (gR_n hMd (by omega) (gR_n hMc (by omega) (gR_n hMb (by omega) (gR_n hMa (by omega) rfl))))))⟩
set_option maxHeartbeats 4000000 in
set_option maxRecDepth 100000 in
theorem kc_Sinit {a n2 : Nat} (ha : S a = (8, 0)) (e2 : a + 2 = n2) : KK G sc yX7_init cX7_init 1 none 1 1 40 [.ref a] (a + 1, S, M, L, P) (fun v μ => v = none ∧ ∃ S' M' L' P', μ = (n2, S', M', L', P') ∧ (S' (a + 1) = (20, 40)) ∧ P' a 0 = some (a + 1) ∧ M' a 1 = -1 ∧ (∀ b, b ≤ a → S' b = S b) ∧ (∀ b k, b < a → P' b k = P b k) ∧ ∀ b k, b < a → M' b k = M b k) := by
  refine KK_of2 [(0, .ref a)] (by decide +kernel) (Nat.le_of_ble_eq_true rfl) rfl ?_
  refine JJ_aload_n dX7_init_0 rfl rfl ?_
  refine JJ_objInit lk_X7_3 tb_92 tb_93 (Nat.le_of_ble_eq_true rfl) dX7_init_1 ?_
  refine JJ_aload_n dX7_init_4 rfl rfl ?_
  refine JJ_bipush (v := 40) dX7_init_5 rfl ?_
  refine JJ_newa (atype := .int) (t := 0) (m := 40) (kc' := 0) (ks' := 0) (by decide) rfl tb_128 (by decide) rfl (by decide) rfl rfl dX7_init_7 ?_
  refine JJ_gn (n1 := a + 2) (by omega) (fun Sa Ma La Pa hSa hMa hLa hPa => ?_)
  refine JJ_putFr (ty := .array .int) (cis := [7]) (k := 0) fa_X7_9 (by decide) (congrArg Prod.fst (gS_n hSa (by omega) ha)) rfl (fun r hr => by cases hr; exact ⟨⟨rfl, rfl⟩, by decide +kernel⟩) rfl rfl rfl dX7_init_9 (fun P1 hP2 => ?_)
  refine JJ_aload_n dX7_init_12 rfl rfl ?_
  refine JJ_iconst (v := (-1)) dX7_init_13 rfl ?_
  refine JJ_puti (cis := [7]) (k := 1) fa_X7_15 (by decide) (congrArg Prod.fst (gS_n hSa (by omega) ha)) rfl (fun r hr => by cases hr; exact ⟨rfl, by decide +kernel⟩) dX7_init_14 (fun M3 hM4 => ?_)
  refine JJ_aload_n dX7_init_17 rfl rfl ?_
  refine JJ_iconst (v := 0) dX7_init_18 rfl ?_
  refine JJ_puti (cis := [7]) (k := 2) fa_X7_19 (by decide) (congrArg Prod.fst (gS_n hSa (by omega) ha)) rfl (fun r hr => by cases hr; exact ⟨rfl, by decide +kernel⟩) dX7_init_19 (fun M5 hM6 => ?_)
  refine JJ_vret dX7_init_22 rfl ?_
  exact ⟨rfl, Sa, M5, La, P1, (by rw [e2]), (gS_s hSa), (rd_s hP2), (rd_n hM6 (by omega) (rd_s hM4)), fun b z => (gS_n hSa (by omega) rfl), fun b k z => (rd_n hP2 (by omega) (gR_n hPa (by omega) rfl)), fun b k z => (rd_n hM6 (by omega) (rd_n hM4 (by omega) (gR_n hMa (by omega) rfl)))⟩
end C39
