section C31
variable {G : Gx} {sc : Nat → Nat → Prop} {n : Nat} {S : Nat → Nat × Nat} {M : Nat → Nat → Int32} {L : Nat → Nat → Int64} {P : Nat → Nat → Option Nat} {x : Nat} {A B : Abs} {b : Nat → Int32} {r : Nat}

set_option maxHeartbeats 4000000 in
set_option maxRecDepth 100000 in
theorem kc_expectY {m i : Nat} {cs : List Int32} {w : Int32} (h : ROK x r b m cs i P M) (hw : (tok b m i).1 = w) (h0 : w ≠ 0) (hC : CWT x S P) (hX : HSC x sc) : KK G sc yX9_expect cX9_expect 2 none 9 0 0 [.ref (x + 2), .int w] (n, S, M, L, P) (fun v μ => v = none ∧ ∃ M', μ = (n, S, M', L, P) ∧ ROK x r b m (cs) ((tok b m i).2.2.2) P M' ∧ ∀ a k, ¬ RCH x r a k → M' a k = M a k) := by
  refine KK_of2 [(0, .ref (x + 2)), (1, .int w)] (by decide +kernel) (Nat.le_of_ble_eq_true rfl) rfl ?_
  refine JJ_aload_n dX9_expect_0 rfl rfl ?_
  refine JJ_geti (v := (tok b m i).1) (cis := [9]) (k := 5) fa_X9_29 (by decide) (congrArg Prod.fst (hC.sh (t := 2) (k := 10) (m := 0) (by decide))) rfl (hX.1 _ _ (by omega) (by omega) (by omega)) h.2.2.2.2.2.2.1 dX9_expect_1 ?_
  refine JJ_iload_n dX9_expect_4 rfl rfl ?_
  refine JJ_icmp_ne (tgt := 15) dX9_expect_5 (by decide) (fun c1 => absurd hw c1) (fun _ => ?_)
  refine JJ_aload_n dX9_expect_8 rfl rfl ?_
  refine JJ_callV (rest := []) (congrArg Prod.fst (hC.sh (t := 2) (k := 10) (m := 0) (by decide))) rfl rfl (kc_nextG h (by rw [hw]; exact h0) hC hX) (by omega) mi_X9_next lk_X9_57 rfl (Nat.le_of_ble_eq_true rfl) rfl rfl dX9_expect_9 ?_
  intro v2 μ3 h4
  obtain ⟨rfl, Mb, rfl, hb, hkb⟩ := h4
  refine JJ_r0 ?_
  refine JJ_goto (tgt := 19) dX9_expect_12 (by decide) ?_
  refine JJ_vret dX9_expect_19 rfl ?_
  exact ⟨rfl, Mb, rfl, hb, hkb⟩
set_option maxHeartbeats 4000000 in
set_option maxRecDepth 100000 in
theorem kc_expectN {m i : Nat} {cs : List Int32} {w : Int32} (h : ROK x r b m cs i P M) (hw : ¬ (tok b m i).1 = w) (hC : CWT x S P) (hX : HSC x sc) : KK G sc yX9_expect cX9_expect 2 none 9 0 0 [.ref (x + 2), .int w] (n, S, M, L, P) (fun v μ => v = none ∧ ∃ M', μ = (n, S, M', L, P) ∧ RBAD x r b m (tok b m i).2.2.1 P M' ∧ ∀ a k, ¬ RCH x r a k → M' a k = M a k) := by
  refine KK_of2 [(0, .ref (x + 2)), (1, .int w)] (by decide +kernel) (Nat.le_of_ble_eq_true rfl) rfl ?_
  refine JJ_aload_n dX9_expect_0 rfl rfl ?_
  refine JJ_geti (v := (tok b m i).1) (cis := [9]) (k := 5) fa_X9_29 (by decide) (congrArg Prod.fst (hC.sh (t := 2) (k := 10) (m := 0) (by decide))) rfl (hX.1 _ _ (by omega) (by omega) (by omega)) h.2.2.2.2.2.2.1 dX9_expect_1 ?_
  refine JJ_iload_n dX9_expect_4 rfl rfl ?_
  refine JJ_icmp_ne (tgt := 15) dX9_expect_5 (by decide) (fun _ => ?_) (fun c1 => absurd c1 hw)
  refine JJ_aload_n dX9_expect_15 rfl rfl ?_
  refine JJ_callV (rest := []) (congrArg Prod.fst (hC.sh (t := 2) (k := 10) (m := 0) (by decide))) rfl rfl (kc_failG h hC hX) (by omega) mi_X9_fail lk_X9_70 rfl (Nat.le_of_ble_eq_true rfl) rfl rfl dX9_expect_16 ?_
  intro v2 μ3 h4
  obtain ⟨rfl, Mb, rfl, hb, hkb⟩ := h4
  refine JJ_r0 ?_
  refine JJ_vret dX9_expect_19 rfl ?_
  exact ⟨rfl, Mb, rfl, hb, hkb⟩
set_option maxHeartbeats 4000000 in
set_option maxRecDepth 100000 in
theorem kc_expectB {m k : Nat} {w : Int32} (h : RBAD x r b m k P M) (hw : ¬ 9 = w) (hC : CWT x S P) (hX : HSC x sc) : KK G sc yX9_expect cX9_expect 2 none 9 0 0 [.ref (x + 2), .int w] (n, S, M, L, P) (fun v μ => v = none ∧ ∃ M', μ = (n, S, M', L, P) ∧ RBAD x r b m k P M' ∧ ∀ a k, ¬ RCH x r a k → M' a k = M a k) := by
  refine KK_of2 [(0, .ref (x + 2)), (1, .int w)] (by decide +kernel) (Nat.le_of_ble_eq_true rfl) rfl ?_
  refine JJ_aload_n dX9_expect_0 rfl rfl ?_
  refine JJ_geti (v := 9) (cis := [9]) (k := 5) fa_X9_29 (by decide) (congrArg Prod.fst (hC.sh (t := 2) (k := 10) (m := 0) (by decide))) rfl (hX.1 _ _ (by omega) (by omega) (by omega)) h.2.2.1 dX9_expect_1 ?_
  refine JJ_iload_n dX9_expect_4 rfl rfl ?_
  refine JJ_icmp_ne (tgt := 15) dX9_expect_5 (by decide) (fun _ => ?_) (fun c1 => absurd c1 hw)
  refine JJ_aload_n dX9_expect_15 rfl rfl ?_
  refine JJ_callV (rest := []) (congrArg Prod.fst (hC.sh (t := 2) (k := 10) (m := 0) (by decide))) rfl rfl (kc_failB h hC hX) (by omega) mi_X9_fail lk_X9_70 rfl (Nat.le_of_ble_eq_true rfl) rfl rfl dX9_expect_16 ?_
  intro v2 μ3 h4
  obtain ⟨rfl, Mb, rfl, hb, hkb⟩ := h4
  refine JJ_r0 ?_
  refine JJ_vret dX9_expect_19 rfl ?_
  exact ⟨rfl, Mb, rfl, hb, hkb⟩
set_option maxHeartbeats 4000000 in
set_option maxRecDepth 100000 in
theorem kc_opensY {m i o : Nat} {cs : List Int32} (h : ROK x r b m cs i P M) (ho : o < 5) (h0 : (tok b m i).1 ≠ 0) (hC : CWT x S P) (hX : HSC x sc) : KK G sc yX9_opens cX9_opens 2 (some .boolean) 9 0 0 [.ref (x + 2), .int (nI o)] (n, S, M, L, P) (fun v μ => v = some (.int 1) ∧ ∃ M', μ = (n, S, M', L, P) ∧ ROK x r b m (cs) ((tok b m i).2.2.2) P M' ∧ ∀ a k, ¬ RCH x r a k → M' a k = M a k) := by
  refine KK_of2 [(0, .ref (x + 2)), (1, .int (nI o))] (by decide +kernel) (Nat.le_of_ble_eq_true rfl) rfl ?_
  refine JJ_iload_n dX9_opens_0 rfl rfl ?_
  refine JJ_iconst (v := 5) dX9_opens_1 rfl ?_
  refine JJ_icmp_lt (tgt := 11) dX9_opens_2 (by decide) (fun _ => ?_) (fun c1 => absurd (nI_lt1 (m := 5) (by omega) (by omega)) c1)
  refine JJ_aload_n dX9_opens_11 rfl rfl ?_
  refine JJ_callV (rest := []) (congrArg Prod.fst (hC.sh (t := 2) (k := 10) (m := 0) (by decide))) rfl rfl (kc_nextG h h0 hC hX) (by omega) mi_X9_next lk_X9_57 rfl (Nat.le_of_ble_eq_true rfl) rfl rfl dX9_opens_12 ?_
  intro v2 μ3 h4
  obtain ⟨rfl, Mb, rfl, hb, hkb⟩ := h4
  refine JJ_r0 ?_
  refine JJ_iconst (v := 1) dX9_opens_15 rfl ?_
  refine JJ_zret dX9_opens_16 rfl (Or.inr rfl) ?_
  exact ⟨rfl, Mb, rfl, hb, hkb⟩
set_option maxHeartbeats 4000000 in
set_option maxRecDepth 100000 in
theorem kc_opensN {m i : Nat} {cs : List Int32} (h : ROK x r b m cs i P M) (hC : CWT x S P) (hX : HSC x sc) : KK G sc yX9_opens cX9_opens 2 (some .boolean) 9 0 0 [.ref (x + 2), .int (nI 5)] (n, S, M, L, P) (fun v μ => v = some (.int 0) ∧ ∃ M', μ = (n, S, M', L, P) ∧ RBAD x r b m (tok b m i).2.2.1 P M' ∧ ∀ a k, ¬ RCH x r a k → M' a k = M a k) := by
  refine KK_of2 [(0, .ref (x + 2)), (1, .int (nI 5))] (by decide +kernel) (Nat.le_of_ble_eq_true rfl) rfl ?_
  refine JJ_iload_n dX9_opens_0 rfl rfl ?_
  refine JJ_iconst (v := 5) dX9_opens_1 rfl ?_
  refine JJ_icmp_lt (tgt := 11) dX9_opens_2 (by decide) (fun c1 => absurd c1 (by decide)) (fun _ => ?_)
  refine JJ_aload_n dX9_opens_5 rfl rfl ?_
  refine JJ_callV (rest := []) (congrArg Prod.fst (hC.sh (t := 2) (k := 10) (m := 0) (by decide))) rfl rfl (kc_failG h hC hX) (by omega) mi_X9_fail lk_X9_70 rfl (Nat.le_of_ble_eq_true rfl) rfl rfl dX9_opens_6 ?_
  intro v2 μ3 h4
  obtain ⟨rfl, Mb, rfl, hb, hkb⟩ := h4
  refine JJ_r0 ?_
  refine JJ_iconst (v := 0) dX9_opens_9 rfl ?_
  refine JJ_zret dX9_opens_10 rfl (Or.inl rfl) ?_
  exact ⟨rfl, Mb, rfl, hb, hkb⟩
set_option maxHeartbeats 4000000 in
set_option maxRecDepth 100000 in
theorem kc_readOneB {m k : Nat} {op : Int32} (h : RBAD x r b m k P M) (hC : CWT x S P) (hX : HSC x sc) : KK G sc yX9_readOne cX9_readOne 2 none 1 0 0 [.ref (x + 2), .int op] (n, S, M, L, P) (fun v μ => v = none ∧ ∃ M', μ = (n, S, M', L, P) ∧ RBAD x r b m k P M' ∧ ∀ a k, ¬ RCH x r a k → M' a k = M a k) := by
  refine KK_of2 [(0, .ref (x + 2)), (1, .int op)] (by decide +kernel) (Nat.le_of_ble_eq_true rfl) rfl ?_
  refine JJ_aload_n dX9_readOne_0 rfl rfl ?_
  refine JJ_geti (v := 9) (cis := [9]) (k := 5) fa_X9_29 (by decide) (congrArg Prod.fst (hC.sh (t := 2) (k := 10) (m := 0) (by decide))) rfl (hX.1 _ _ (by omega) (by omega) (by omega)) h.2.2.1 dX9_readOne_1 ?_
  refine JJ_iconst (v := 1) dX9_readOne_4 rfl ?_
  refine JJ_icmp_eq (tgt := 16) dX9_readOne_5 (by decide) (fun c1 => absurd c1 (by decide)) (fun _ => ?_)
  refine JJ_aload_n dX9_readOne_8 rfl rfl ?_
  refine JJ_geti (v := 9) (cis := [9]) (k := 5) fa_X9_29 (by decide) (congrArg Prod.fst (hC.sh (t := 2) (k := 10) (m := 0) (by decide))) rfl (hX.1 _ _ (by omega) (by omega) (by omega)) h.2.2.1 dX9_readOne_9 ?_
  refine JJ_iconst (v := 2) dX9_readOne_12 rfl ?_
  refine JJ_icmp_ne (tgt := 31) dX9_readOne_13 (by decide) (fun _ => ?_) (fun c2 => absurd c2 (by decide))
  refine JJ_aload_n dX9_readOne_31 rfl rfl ?_
  refine JJ_geti (v := 9) (cis := [9]) (k := 5) fa_X9_29 (by decide) (congrArg Prod.fst (hC.sh (t := 2) (k := 10) (m := 0) (by decide))) rfl (hX.1 _ _ (by omega) (by omega) (by omega)) h.2.2.1 dX9_readOne_32 ?_
  refine JJ_bipush (v := 45) dX9_readOne_35 rfl ?_
  refine JJ_icmp_ne (tgt := 64) dX9_readOne_37 (by decide) (fun _ => ?_) (fun c3 => absurd c3 (by decide))
  refine JJ_aload_n dX9_readOne_64 rfl rfl ?_
  refine JJ_geti (v := 9) (cis := [9]) (k := 5) fa_X9_29 (by decide) (congrArg Prod.fst (hC.sh (t := 2) (k := 10) (m := 0) (by decide))) rfl (hX.1 _ _ (by omega) (by omega) (by omega)) h.2.2.1 dX9_readOne_65 ?_
  refine JJ_bipush (v := 40) dX9_readOne_68 rfl ?_
  refine JJ_icmp_ne (tgt := 97) dX9_readOne_70 (by decide) (fun _ => ?_) (fun c4 => absurd c4 (by decide))
  refine JJ_aload_n dX9_readOne_97 rfl rfl ?_
  refine JJ_callV (rest := []) (congrArg Prod.fst (hC.sh (t := 2) (k := 10) (m := 0) (by decide))) rfl rfl (kc_failB h hC hX) (by omega) mi_X9_fail lk_X9_70 rfl (Nat.le_of_ble_eq_true rfl) rfl rfl dX9_readOne_98 ?_
  intro v5 μ6 h7
  obtain ⟨rfl, Mb, rfl, hb, hkb⟩ := h7
  refine JJ_r0 ?_
  refine JJ_vret dX9_readOne_101 rfl ?_
  exact ⟨rfl, Mb, rfl, hb, hkb⟩
set_option maxHeartbeats 4000000 in
set_option maxRecDepth 100000 in
theorem kc_readTermB {m k : Nat} {op : Int32} (h : RBAD x r b m k P M) (hC : CWT x S P) (hX : HSC x sc) : KK G sc yX9_readTerm cX9_readTerm 3 none 2 0 0 [.ref (x + 2), .int op] (n, S, M, L, P) (fun v μ => v = none ∧ ∃ M', μ = (n, S, M', L, P) ∧ RBAD x r b m k P M' ∧ ∀ a k, ¬ RCH x r a k → M' a k = M a k) := by
  refine KK_of2 [(0, .ref (x + 2)), (1, .int op)] (by decide +kernel) (Nat.le_of_ble_eq_true rfl) rfl ?_
  refine JJ_aload_n dX9_readTerm_0 rfl rfl ?_
  refine JJ_iload_n dX9_readTerm_1 rfl rfl ?_
  refine JJ_callV (rest := []) (congrArg Prod.fst (hC.sh (t := 2) (k := 10) (m := 0) (by decide))) rfl rfl (kc_readOneB h hC hX) (by omega) mi_X9_readOne lk_X9_93 rfl (Nat.le_of_ble_eq_true rfl) rfl rfl dX9_readTerm_2 ?_
  intro v1 μ2 h3
  obtain ⟨rfl, Mb, rfl, hb, hkb⟩ := h3
  refine JJ_r0 ?_
  refine JJ_iconst (v := 0) dX9_readTerm_5 rfl ?_
  refine JJ_istore_n (lv' := [(2, .int 0), (0, .ref (x + 2)), (1, .int op)]) dX9_readTerm_6 rfl (by decide) rfl ?_
  refine JJ_iload_n dX9_readTerm_7 rfl rfl ?_
  refine JJ_sipush (v := 160) dX9_readTerm_8 rfl ?_
  refine JJ_icmp_ge (tgt := 44) dX9_readTerm_11 (by decide) (fun c4 => absurd c4 (by decide)) (fun _ => ?_)
  refine JJ_aload_n dX9_readTerm_14 rfl rfl ?_
  refine JJ_geti (v := 9) (cis := [9]) (k := 5) fa_X9_29 (by decide) (congrArg Prod.fst (hC.sh (t := 2) (k := 10) (m := 0) (by decide))) rfl (hX.1 _ _ (by omega) (by omega) (by omega)) hb.2.2.1 dX9_readTerm_15 ?_
  refine JJ_bipush (v := 42) dX9_readTerm_18 rfl ?_
  refine JJ_icmp_ne (tgt := 44) dX9_readTerm_20 (by decide) (fun _ => ?_) (fun c5 => absurd c5 (by decide))
  refine JJ_vret dX9_readTerm_44 rfl ?_
  exact ⟨rfl, Mb, rfl, hb, hkb⟩
set_option maxHeartbeats 4000000 in
set_option maxRecDepth 100000 in
theorem kc_readSumB {m k : Nat} {op : Int32} (h : RBAD x r b m k P M) (hC : CWT x S P) (hX : HSC x sc) : KK G sc yX9_readSum cX9_readSum 4 none 3 0 0 [.ref (x + 2), .int op] (n, S, M, L, P) (fun v μ => v = none ∧ ∃ M', μ = (n, S, M', L, P) ∧ RBAD x r b m k P M' ∧ ∀ a k, ¬ RCH x r a k → M' a k = M a k) := by
  refine KK_of2 [(0, .ref (x + 2)), (1, .int op)] (by decide +kernel) (Nat.le_of_ble_eq_true rfl) rfl ?_
  refine JJ_aload_n dX9_readSum_0 rfl rfl ?_
  refine JJ_iload_n dX9_readSum_1 rfl rfl ?_
  refine JJ_callV (rest := []) (congrArg Prod.fst (hC.sh (t := 2) (k := 10) (m := 0) (by decide))) rfl rfl (kc_readTermB h hC hX) (by omega) mi_X9_readTerm lk_X9_90 rfl (Nat.le_of_ble_eq_true rfl) rfl rfl dX9_readSum_2 ?_
  intro v1 μ2 h3
  obtain ⟨rfl, Mb, rfl, hb, hkb⟩ := h3
  refine JJ_r0 ?_
  refine JJ_iconst (v := 0) dX9_readSum_5 rfl ?_
  refine JJ_istore_n (lv' := [(2, .int 0), (0, .ref (x + 2)), (1, .int op)]) dX9_readSum_6 rfl (by decide) rfl ?_
  refine JJ_iload_n dX9_readSum_7 rfl rfl ?_
  refine JJ_sipush (v := 160) dX9_readSum_8 rfl ?_
  refine JJ_icmp_ge (tgt := 69) dX9_readSum_11 (by decide) (fun c4 => absurd c4 (by decide)) (fun _ => ?_)
  refine JJ_aload_n dX9_readSum_14 rfl rfl ?_
  refine JJ_geti (v := 9) (cis := [9]) (k := 5) fa_X9_29 (by decide) (congrArg Prod.fst (hC.sh (t := 2) (k := 10) (m := 0) (by decide))) rfl (hX.1 _ _ (by omega) (by omega) (by omega)) hb.2.2.1 dX9_readSum_15 ?_
  refine JJ_bipush (v := 43) dX9_readSum_18 rfl ?_
  refine JJ_icmp_eq (tgt := 32) dX9_readSum_20 (by decide) (fun c5 => absurd c5 (by decide)) (fun _ => ?_)
  refine JJ_aload_n dX9_readSum_23 rfl rfl ?_
  refine JJ_geti (v := 9) (cis := [9]) (k := 5) fa_X9_29 (by decide) (congrArg Prod.fst (hC.sh (t := 2) (k := 10) (m := 0) (by decide))) rfl (hX.1 _ _ (by omega) (by omega) (by omega)) hb.2.2.1 dX9_readSum_24 ?_
  refine JJ_bipush (v := 45) dX9_readSum_27 rfl ?_
  refine JJ_icmp_ne (tgt := 69) dX9_readSum_29 (by decide) (fun _ => ?_) (fun c6 => absurd c6 (by decide))
  refine JJ_vret dX9_readSum_69 rfl ?_
  exact ⟨rfl, Mb, rfl, hb, hkb⟩
set_option maxHeartbeats 4000000 in
set_option maxRecDepth 100000 in
theorem kc_readNotB {m k : Nat} {op : Int32} (h : RBAD x r b m k P M) (hC : CWT x S P) (hX : HSC x sc) : KK G sc yX9_readNot cX9_readNot 3 none 4 0 0 [.ref (x + 2), .int op] (n, S, M, L, P) (fun v μ => v = none ∧ ∃ M', μ = (n, S, M', L, P) ∧ RBAD x r b m k P M' ∧ ∀ a k, ¬ RCH x r a k → M' a k = M a k) := by
  refine KK_of2 [(0, .ref (x + 2)), (1, .int op)] (by decide +kernel) (Nat.le_of_ble_eq_true rfl) rfl ?_
  refine JJ_aload_n dX9_readNot_0 rfl rfl ?_
  refine JJ_geti (v := 9) (cis := [9]) (k := 5) fa_X9_29 (by decide) (congrArg Prod.fst (hC.sh (t := 2) (k := 10) (m := 0) (by decide))) rfl (hX.1 _ _ (by omega) (by omega) (by omega)) h.2.2.1 dX9_readNot_1 ?_
  refine JJ_bipush (v := 8) dX9_readNot_4 rfl ?_
  refine JJ_icmp_ne (tgt := 31) dX9_readNot_6 (by decide) (fun _ => ?_) (fun c1 => absurd c1 (by decide))
  refine JJ_aload_n dX9_readNot_31 rfl rfl ?_
  refine JJ_iload_n dX9_readNot_32 rfl rfl ?_
  refine JJ_callV (rest := []) (congrArg Prod.fst (hC.sh (t := 2) (k := 10) (m := 0) (by decide))) rfl rfl (kc_readSumB h hC hX) (by omega) mi_X9_readSum lk_X9_87 rfl (Nat.le_of_ble_eq_true rfl) rfl rfl dX9_readNot_33 ?_
  intro v2 μ3 h4
  obtain ⟨rfl, Mb, rfl, hb, hkb⟩ := h4
  refine JJ_r0 ?_
  refine JJ_aload_n dX9_readNot_36 rfl rfl ?_
  refine JJ_geti (v := 9) (cis := [9]) (k := 5) fa_X9_29 (by decide) (congrArg Prod.fst (hC.sh (t := 2) (k := 10) (m := 0) (by decide))) rfl (hX.1 _ _ (by omega) (by omega) (by omega)) hb.2.2.1 dX9_readNot_37 ?_
  refine JJ_bipush (v := 60) dX9_readNot_40 rfl ?_
  refine JJ_icmp_eq (tgt := 54) dX9_readNot_42 (by decide) (fun c5 => absurd c5 (by decide)) (fun _ => ?_)
  refine JJ_aload_n dX9_readNot_45 rfl rfl ?_
  refine JJ_geti (v := 9) (cis := [9]) (k := 5) fa_X9_29 (by decide) (congrArg Prod.fst (hC.sh (t := 2) (k := 10) (m := 0) (by decide))) rfl (hX.1 _ _ (by omega) (by omega) (by omega)) hb.2.2.1 dX9_readNot_46 ?_
  refine JJ_bipush (v := 61) dX9_readNot_49 rfl ?_
  refine JJ_icmp_ne (tgt := 85) dX9_readNot_51 (by decide) (fun _ => ?_) (fun c6 => absurd c6 (by decide))
  refine JJ_vret dX9_readNot_85 rfl ?_
  exact ⟨rfl, Mb, rfl, hb, hkb⟩
set_option maxHeartbeats 4000000 in
set_option maxRecDepth 100000 in
theorem kc_readBothB {m k : Nat} {op : Int32} (h : RBAD x r b m k P M) (hC : CWT x S P) (hX : HSC x sc) : KK G sc yX9_readBoth cX9_readBoth 3 none 5 0 0 [.ref (x + 2), .int op] (n, S, M, L, P) (fun v μ => v = none ∧ ∃ M', μ = (n, S, M', L, P) ∧ RBAD x r b m k P M' ∧ ∀ a k, ¬ RCH x r a k → M' a k = M a k) := by
  refine KK_of2 [(0, .ref (x + 2)), (1, .int op)] (by decide +kernel) (Nat.le_of_ble_eq_true rfl) rfl ?_
  refine JJ_aload_n dX9_readBoth_0 rfl rfl ?_
  refine JJ_iload_n dX9_readBoth_1 rfl rfl ?_
  refine JJ_callV (rest := []) (congrArg Prod.fst (hC.sh (t := 2) (k := 10) (m := 0) (by decide))) rfl rfl (kc_readNotB h hC hX) (by omega) mi_X9_readNot lk_X9_81 rfl (Nat.le_of_ble_eq_true rfl) rfl rfl dX9_readBoth_2 ?_
  intro v1 μ2 h3
  obtain ⟨rfl, Mb, rfl, hb, hkb⟩ := h3
  refine JJ_r0 ?_
  refine JJ_iconst (v := 0) dX9_readBoth_5 rfl ?_
  refine JJ_istore_n (lv' := [(2, .int 0), (0, .ref (x + 2)), (1, .int op)]) dX9_readBoth_6 rfl (by decide) rfl ?_
  refine JJ_iload_n dX9_readBoth_7 rfl rfl ?_
  refine JJ_sipush (v := 160) dX9_readBoth_8 rfl ?_
  refine JJ_icmp_ge (tgt := 44) dX9_readBoth_11 (by decide) (fun c4 => absurd c4 (by decide)) (fun _ => ?_)
  refine JJ_aload_n dX9_readBoth_14 rfl rfl ?_
  refine JJ_geti (v := 9) (cis := [9]) (k := 5) fa_X9_29 (by decide) (congrArg Prod.fst (hC.sh (t := 2) (k := 10) (m := 0) (by decide))) rfl (hX.1 _ _ (by omega) (by omega) (by omega)) hb.2.2.1 dX9_readBoth_15 ?_
  refine JJ_bipush (v := 7) dX9_readBoth_18 rfl ?_
  refine JJ_icmp_ne (tgt := 44) dX9_readBoth_20 (by decide) (fun _ => ?_) (fun c5 => absurd c5 (by decide))
  refine JJ_vret dX9_readBoth_44 rfl ?_
  exact ⟨rfl, Mb, rfl, hb, hkb⟩
set_option maxHeartbeats 4000000 in
set_option maxRecDepth 100000 in
theorem kc_readEitherB {m k : Nat} {op : Int32} (h : RBAD x r b m k P M) (hC : CWT x S P) (hX : HSC x sc) : KK G sc yX9_readEither cX9_readEither 3 none 6 0 0 [.ref (x + 2), .int op] (n, S, M, L, P) (fun v μ => v = none ∧ ∃ M', μ = (n, S, M', L, P) ∧ RBAD x r b m k P M' ∧ ∀ a k, ¬ RCH x r a k → M' a k = M a k) := by
  refine KK_of2 [(0, .ref (x + 2)), (1, .int op)] (by decide +kernel) (Nat.le_of_ble_eq_true rfl) rfl ?_
  refine JJ_aload_n dX9_readEither_0 rfl rfl ?_
  refine JJ_iload_n dX9_readEither_1 rfl rfl ?_
  refine JJ_callV (rest := []) (congrArg Prod.fst (hC.sh (t := 2) (k := 10) (m := 0) (by decide))) rfl rfl (kc_readBothB h hC hX) (by omega) mi_X9_readBoth lk_X9_75 rfl (Nat.le_of_ble_eq_true rfl) rfl rfl dX9_readEither_2 ?_
  intro v1 μ2 h3
  obtain ⟨rfl, Mb, rfl, hb, hkb⟩ := h3
  refine JJ_r0 ?_
  refine JJ_iconst (v := 0) dX9_readEither_5 rfl ?_
  refine JJ_istore_n (lv' := [(2, .int 0), (0, .ref (x + 2)), (1, .int op)]) dX9_readEither_6 rfl (by decide) rfl ?_
  refine JJ_iload_n dX9_readEither_7 rfl rfl ?_
  refine JJ_sipush (v := 160) dX9_readEither_8 rfl ?_
  refine JJ_icmp_ge (tgt := 44) dX9_readEither_11 (by decide) (fun c4 => absurd c4 (by decide)) (fun _ => ?_)
  refine JJ_aload_n dX9_readEither_14 rfl rfl ?_
  refine JJ_geti (v := 9) (cis := [9]) (k := 5) fa_X9_29 (by decide) (congrArg Prod.fst (hC.sh (t := 2) (k := 10) (m := 0) (by decide))) rfl (hX.1 _ _ (by omega) (by omega) (by omega)) hb.2.2.1 dX9_readEither_15 ?_
  refine JJ_bipush (v := 6) dX9_readEither_18 rfl ?_
  refine JJ_icmp_ne (tgt := 44) dX9_readEither_20 (by decide) (fun _ => ?_) (fun c5 => absurd c5 (by decide))
  refine JJ_vret dX9_readEither_44 rfl ?_
  exact ⟨rfl, Mb, rfl, hb, hkb⟩
end C31
