section C28
variable {G : Gx} {sc : Nat → Nat → Prop} {n : Nat} {S : Nat → Nat × Nat} {M : Nat → Nat → Int32} {L : Nat → Nat → Int64} {P : Nat → Nat → Option Nat} {x : Nat} {A B : Abs}

set_option maxHeartbeats 4000000 in
set_option maxRecDepth 100000 in
theorem kc_letterAt {m i : Nat} (hm : M (x + 2) 1 = nI m) (h160 : m ≤ 160) (hi : i < 1000) (hC : CWT x S P) (hX : HSC x sc) : KK G sc yX9_letterAt cX9_letterAt 2 (some .int) 0 0 0 [.ref (x + 2), .int (nI i)] (n, S, M, L, P) (ansI (if i < m then M (x + 3) i else 0) (n, S, M, L, P)) := by
  refine KK_of2 [(0, .ref (x + 2)), (1, .int (nI i))] (by decide +kernel) (Nat.le_of_ble_eq_true rfl) rfl ?_
  refine JJ_iload_n dX9_letterAt_0 rfl rfl ?_
  refine JJ_if_lt (tgt := 21) dX9_letterAt_1 (by decide) (fun c1 => absurd c1 (nI_nn (by omega))) (fun _ => ?_)
  refine JJ_iload_n dX9_letterAt_4 rfl rfl ?_
  refine JJ_aload_n dX9_letterAt_5 rfl rfl ?_
  refine JJ_geti (v := nI m) (cis := [9]) (k := 1) fa_X9_15 (by decide) (congrArg Prod.fst (hC.sh (t := 2) (k := 10) (m := 0) (by decide))) rfl (hX.1 _ _ (by omega) (by omega) (by omega)) hm dX9_letterAt_6 ?_
  refine JJ_icmp_ge (tgt := 21) dX9_letterAt_9 (by decide) (fun c2 => ?_) (fun c2 => ?_)
  · skip
    refine JJ_iconst (v := 0) dX9_letterAt_21 rfl ?_
    refine JJ_goto (tgt := 31) dX9_letterAt_22 (by decide) ?_
    refine JJ_iret dX9_letterAt_31 rfl ?_
    exact ans_i (if_neg (fun z => absurd c2 (nI_ge (by omega) (by omega)))).symm
  · skip
    have him : i < m := Nat.lt_of_not_le (fun z => c2 (nI_le z (by omega)))
    refine JJ_iload_n dX9_letterAt_12 rfl rfl ?_
    refine JJ_aload_n dX9_letterAt_13 rfl rfl ?_
    refine JJ_getr (q := x + 3) (cis := [9]) (k := 0) fa_X9_9 (by decide) (congrArg Prod.fst (hC.sh (t := 2) (k := 10) (m := 0) (by decide))) rfl (hC.rf (t := 2) (s := 0) (u := 3) (by decide)) dX9_letterAt_14 ?_
    refine JJ_alen (t := 0) (hC.sh (t := 3) (k := 20) (m := 160) (by decide)) (by decide) dX9_letterAt_17 ?_
    refine JJ_icmp_lt (tgt := 25) dX9_letterAt_18 (by decide) (fun _ => ?_) (fun c3 => absurd (nI_lt1 (m := 160) (by omega) (by omega)) c3)
    refine JJ_aload_n dX9_letterAt_25 rfl rfl ?_
    refine JJ_getr (q := x + 3) (cis := [9]) (k := 0) fa_X9_9 (by decide) (congrArg Prod.fst (hC.sh (t := 2) (k := 10) (m := 0) (by decide))) rfl (hC.rf (t := 2) (s := 0) (u := 3) (by decide)) dX9_letterAt_26 ?_
    refine JJ_iload_n dX9_letterAt_29 rfl rfl ?_
    refine JJ_ialdX (v := M (x + 3) i) (hC.sh (t := 3) (k := 20) (m := 160) (by decide)) (IX_nI (by omega) (by omega)) (hX.1 _ _ (by omega) (by omega) (by omega)) rfl dX9_letterAt_30 ?_
    refine JJ_iret dX9_letterAt_31 rfl ?_
    exact ans_i (if_pos him).symm
set_option maxHeartbeats 4000000 in
set_option maxRecDepth 100000 in
theorem kc_isLetter {v : Int32} : KK G sc yX9_isLetter cX9_isLetter 1 (some .boolean) 0 0 0 [.int v] (n, S, M, L, P) (ansI (b2 (isLt v)) (n, S, M, L, P)) := by
  refine KK_of2 [(0, .int v)] (by decide +kernel) (Nat.le_of_ble_eq_true rfl) rfl ?_
  refine JJ_iload_n dX9_isLetter_0 rfl rfl ?_
  refine JJ_bipush (v := 97) dX9_isLetter_1 rfl ?_
  refine JJ_icmp_lt (tgt := 16) dX9_isLetter_3 (by decide) (fun c1 => ?_) (fun c1 => ?_)
  · skip
    refine JJ_iconst (v := 0) dX9_isLetter_16 rfl ?_
    refine JJ_zret dX9_isLetter_17 rfl (Or.inl rfl) ?_
    exact ans_i (b2_f (fun z => absurd z.1 (Int32.not_le.mpr c1))).symm
  · skip
    refine JJ_iload_n dX9_isLetter_6 rfl rfl ?_
    refine JJ_bipush (v := 122) dX9_isLetter_7 rfl ?_
    refine JJ_icmp_gt (tgt := 16) dX9_isLetter_9 (by decide) (fun c2 => ?_) (fun c2 => ?_)
    · skip
      refine JJ_iconst (v := 0) dX9_isLetter_16 rfl ?_
      refine JJ_zret dX9_isLetter_17 rfl (Or.inl rfl) ?_
      exact ans_i (b2_f (fun z => absurd z.2 (Int32.not_le.mpr c2))).symm
    · skip
      refine JJ_iconst (v := 1) dX9_isLetter_12 rfl ?_
      refine JJ_goto (tgt := 17) dX9_isLetter_13 (by decide) ?_
      refine JJ_zret dX9_isLetter_17 rfl (Or.inr rfl) ?_
      exact ans_i (b2_t ⟨Int32.not_lt.mp c1, Int32.not_lt.mp c2⟩).symm
set_option maxHeartbeats 4000000 in
set_option maxRecDepth 100000 in
theorem kc_isDigit {v : Int32} : KK G sc yX9_isDigit cX9_isDigit 1 (some .boolean) 0 0 0 [.int v] (n, S, M, L, P) (ansI (b2 (isDg v)) (n, S, M, L, P)) := by
  refine KK_of2 [(0, .int v)] (by decide +kernel) (Nat.le_of_ble_eq_true rfl) rfl ?_
  refine JJ_iload_n dX9_isDigit_0 rfl rfl ?_
  refine JJ_bipush (v := 48) dX9_isDigit_1 rfl ?_
  refine JJ_icmp_lt (tgt := 16) dX9_isDigit_3 (by decide) (fun c1 => ?_) (fun c1 => ?_)
  · skip
    refine JJ_iconst (v := 0) dX9_isDigit_16 rfl ?_
    refine JJ_zret dX9_isDigit_17 rfl (Or.inl rfl) ?_
    exact ans_i (b2_f (fun z => absurd z.1 (Int32.not_le.mpr c1))).symm
  · skip
    refine JJ_iload_n dX9_isDigit_6 rfl rfl ?_
    refine JJ_bipush (v := 57) dX9_isDigit_7 rfl ?_
    refine JJ_icmp_gt (tgt := 16) dX9_isDigit_9 (by decide) (fun c2 => ?_) (fun c2 => ?_)
    · skip
      refine JJ_iconst (v := 0) dX9_isDigit_16 rfl ?_
      refine JJ_zret dX9_isDigit_17 rfl (Or.inl rfl) ?_
      exact ans_i (b2_f (fun z => absurd z.2 (Int32.not_le.mpr c2))).symm
    · skip
      refine JJ_iconst (v := 1) dX9_isDigit_12 rfl ?_
      refine JJ_goto (tgt := 17) dX9_isDigit_13 (by decide) ?_
      refine JJ_zret dX9_isDigit_17 rfl (Or.inr rfl) ?_
      exact ans_i (b2_t ⟨Int32.not_lt.mp c1, Int32.not_lt.mp c2⟩).symm
set_option maxHeartbeats 4000000 in
set_option maxRecDepth 100000 in
theorem kc_isSign {v : Int32} : KK G sc yX9_isSign cX9_isSign 1 (some .boolean) 0 0 0 [.int v] (n, S, M, L, P) (ansI (b2 (isSg v)) (n, S, M, L, P)) := by
  refine KK_of2 [(0, .int v)] (by decide +kernel) (Nat.le_of_ble_eq_true rfl) rfl ?_
  refine JJ_iload_n dX9_isSign_0 rfl rfl ?_
  by_cases c40 : v = 40
  · skip
    refine JJ_tabIn (tgt := 104) 40 dX9_isSign_1 (by rw [c40]; rfl) (by decide) rfl (by decide) ?_
    refine JJ_iconst (v := 1) dX9_isSign_104 rfl ?_
    refine JJ_zret dX9_isSign_105 rfl (Or.inr rfl) ?_
    exact ans_i (b2_t (by rw [c40]; decide)).symm
  by_cases c41 : v = 41
  · skip
    refine JJ_tabIn (tgt := 104) 41 dX9_isSign_1 (by rw [c41]; rfl) (by decide) rfl (by decide) ?_
    refine JJ_iconst (v := 1) dX9_isSign_104 rfl ?_
    refine JJ_zret dX9_isSign_105 rfl (Or.inr rfl) ?_
    exact ans_i (b2_t (by rw [c41]; decide)).symm
  by_cases c42 : v = 42
  · skip
    refine JJ_tabIn (tgt := 104) 42 dX9_isSign_1 (by rw [c42]; rfl) (by decide) rfl (by decide) ?_
    refine JJ_iconst (v := 1) dX9_isSign_104 rfl ?_
    refine JJ_zret dX9_isSign_105 rfl (Or.inr rfl) ?_
    exact ans_i (b2_t (by rw [c42]; decide)).symm
  by_cases c43 : v = 43
  · skip
    refine JJ_tabIn (tgt := 104) 43 dX9_isSign_1 (by rw [c43]; rfl) (by decide) rfl (by decide) ?_
    refine JJ_iconst (v := 1) dX9_isSign_104 rfl ?_
    refine JJ_zret dX9_isSign_105 rfl (Or.inr rfl) ?_
    exact ans_i (b2_t (by rw [c43]; decide)).symm
  by_cases c44 : v = 44
  · skip
    refine JJ_tabIn (tgt := 106) 44 dX9_isSign_1 (by rw [c44]; rfl) (by decide) rfl (by decide) ?_
    refine JJ_iconst (v := 0) dX9_isSign_106 rfl ?_
    refine JJ_zret dX9_isSign_107 rfl (Or.inl rfl) ?_
    exact ans_i (b2_f (by rw [c44]; decide)).symm
  by_cases c45 : v = 45
  · skip
    refine JJ_tabIn (tgt := 104) 45 dX9_isSign_1 (by rw [c45]; rfl) (by decide) rfl (by decide) ?_
    refine JJ_iconst (v := 1) dX9_isSign_104 rfl ?_
    refine JJ_zret dX9_isSign_105 rfl (Or.inr rfl) ?_
    exact ans_i (b2_t (by rw [c45]; decide)).symm
  by_cases c46 : v = 46
  · skip
    refine JJ_tabIn (tgt := 106) 46 dX9_isSign_1 (by rw [c46]; rfl) (by decide) rfl (by decide) ?_
    refine JJ_iconst (v := 0) dX9_isSign_106 rfl ?_
    refine JJ_zret dX9_isSign_107 rfl (Or.inl rfl) ?_
    exact ans_i (b2_f (by rw [c46]; decide)).symm
  by_cases c47 : v = 47
  · skip
    refine JJ_tabIn (tgt := 106) 47 dX9_isSign_1 (by rw [c47]; rfl) (by decide) rfl (by decide) ?_
    refine JJ_iconst (v := 0) dX9_isSign_106 rfl ?_
    refine JJ_zret dX9_isSign_107 rfl (Or.inl rfl) ?_
    exact ans_i (b2_f (by rw [c47]; decide)).symm
  by_cases c48 : v = 48
  · skip
    refine JJ_tabIn (tgt := 106) 48 dX9_isSign_1 (by rw [c48]; rfl) (by decide) rfl (by decide) ?_
    refine JJ_iconst (v := 0) dX9_isSign_106 rfl ?_
    refine JJ_zret dX9_isSign_107 rfl (Or.inl rfl) ?_
    exact ans_i (b2_f (by rw [c48]; decide)).symm
  by_cases c49 : v = 49
  · skip
    refine JJ_tabIn (tgt := 106) 49 dX9_isSign_1 (by rw [c49]; rfl) (by decide) rfl (by decide) ?_
    refine JJ_iconst (v := 0) dX9_isSign_106 rfl ?_
    refine JJ_zret dX9_isSign_107 rfl (Or.inl rfl) ?_
    exact ans_i (b2_f (by rw [c49]; decide)).symm
  by_cases c50 : v = 50
  · skip
    refine JJ_tabIn (tgt := 106) 50 dX9_isSign_1 (by rw [c50]; rfl) (by decide) rfl (by decide) ?_
    refine JJ_iconst (v := 0) dX9_isSign_106 rfl ?_
    refine JJ_zret dX9_isSign_107 rfl (Or.inl rfl) ?_
    exact ans_i (b2_f (by rw [c50]; decide)).symm
  by_cases c51 : v = 51
  · skip
    refine JJ_tabIn (tgt := 106) 51 dX9_isSign_1 (by rw [c51]; rfl) (by decide) rfl (by decide) ?_
    refine JJ_iconst (v := 0) dX9_isSign_106 rfl ?_
    refine JJ_zret dX9_isSign_107 rfl (Or.inl rfl) ?_
    exact ans_i (b2_f (by rw [c51]; decide)).symm
  by_cases c52 : v = 52
  · skip
    refine JJ_tabIn (tgt := 106) 52 dX9_isSign_1 (by rw [c52]; rfl) (by decide) rfl (by decide) ?_
    refine JJ_iconst (v := 0) dX9_isSign_106 rfl ?_
    refine JJ_zret dX9_isSign_107 rfl (Or.inl rfl) ?_
    exact ans_i (b2_f (by rw [c52]; decide)).symm
  by_cases c53 : v = 53
  · skip
    refine JJ_tabIn (tgt := 106) 53 dX9_isSign_1 (by rw [c53]; rfl) (by decide) rfl (by decide) ?_
    refine JJ_iconst (v := 0) dX9_isSign_106 rfl ?_
    refine JJ_zret dX9_isSign_107 rfl (Or.inl rfl) ?_
    exact ans_i (b2_f (by rw [c53]; decide)).symm
  by_cases c54 : v = 54
  · skip
    refine JJ_tabIn (tgt := 106) 54 dX9_isSign_1 (by rw [c54]; rfl) (by decide) rfl (by decide) ?_
    refine JJ_iconst (v := 0) dX9_isSign_106 rfl ?_
    refine JJ_zret dX9_isSign_107 rfl (Or.inl rfl) ?_
    exact ans_i (b2_f (by rw [c54]; decide)).symm
  by_cases c55 : v = 55
  · skip
    refine JJ_tabIn (tgt := 106) 55 dX9_isSign_1 (by rw [c55]; rfl) (by decide) rfl (by decide) ?_
    refine JJ_iconst (v := 0) dX9_isSign_106 rfl ?_
    refine JJ_zret dX9_isSign_107 rfl (Or.inl rfl) ?_
    exact ans_i (b2_f (by rw [c55]; decide)).symm
  by_cases c56 : v = 56
  · skip
    refine JJ_tabIn (tgt := 106) 56 dX9_isSign_1 (by rw [c56]; rfl) (by decide) rfl (by decide) ?_
    refine JJ_iconst (v := 0) dX9_isSign_106 rfl ?_
    refine JJ_zret dX9_isSign_107 rfl (Or.inl rfl) ?_
    exact ans_i (b2_f (by rw [c56]; decide)).symm
  by_cases c57 : v = 57
  · skip
    refine JJ_tabIn (tgt := 106) 57 dX9_isSign_1 (by rw [c57]; rfl) (by decide) rfl (by decide) ?_
    refine JJ_iconst (v := 0) dX9_isSign_106 rfl ?_
    refine JJ_zret dX9_isSign_107 rfl (Or.inl rfl) ?_
    exact ans_i (b2_f (by rw [c57]; decide)).symm
  by_cases c58 : v = 58
  · skip
    refine JJ_tabIn (tgt := 106) 58 dX9_isSign_1 (by rw [c58]; rfl) (by decide) rfl (by decide) ?_
    refine JJ_iconst (v := 0) dX9_isSign_106 rfl ?_
    refine JJ_zret dX9_isSign_107 rfl (Or.inl rfl) ?_
    exact ans_i (b2_f (by rw [c58]; decide)).symm
  by_cases c59 : v = 59
  · skip
    refine JJ_tabIn (tgt := 104) 59 dX9_isSign_1 (by rw [c59]; rfl) (by decide) rfl (by decide) ?_
    refine JJ_iconst (v := 1) dX9_isSign_104 rfl ?_
    refine JJ_zret dX9_isSign_105 rfl (Or.inr rfl) ?_
    exact ans_i (b2_t (by rw [c59]; decide)).symm
  by_cases c60 : v = 60
  · skip
    refine JJ_tabIn (tgt := 104) 60 dX9_isSign_1 (by rw [c60]; rfl) (by decide) rfl (by decide) ?_
    refine JJ_iconst (v := 1) dX9_isSign_104 rfl ?_
    refine JJ_zret dX9_isSign_105 rfl (Or.inr rfl) ?_
    exact ans_i (b2_t (by rw [c60]; decide)).symm
  by_cases c61 : v = 61
  · skip
    refine JJ_tabIn (tgt := 104) 61 dX9_isSign_1 (by rw [c61]; rfl) (by decide) rfl (by decide) ?_
    refine JJ_iconst (v := 1) dX9_isSign_104 rfl ?_
    refine JJ_zret dX9_isSign_105 rfl (Or.inr rfl) ?_
    exact ans_i (b2_t (by rw [c61]; decide)).symm
  refine JJ_tabOut (tgt := 106) dX9_isSign_1 (by have z40 := lv_neT c40 (a := 40) rfl; have z41 := lv_neT c41 (a := 41) rfl; have z42 := lv_neT c42 (a := 42) rfl; have z43 := lv_neT c43 (a := 43) rfl; have z44 := lv_neT c44 (a := 44) rfl; have z45 := lv_neT c45 (a := 45) rfl; have z46 := lv_neT c46 (a := 46) rfl; have z47 := lv_neT c47 (a := 47) rfl; have z48 := lv_neT c48 (a := 48) rfl; have z49 := lv_neT c49 (a := 49) rfl; have z50 := lv_neT c50 (a := 50) rfl; have z51 := lv_neT c51 (a := 51) rfl; have z52 := lv_neT c52 (a := 52) rfl; have z53 := lv_neT c53 (a := 53) rfl; have z54 := lv_neT c54 (a := 54) rfl; have z55 := lv_neT c55 (a := 55) rfl; have z56 := lv_neT c56 (a := 56) rfl; have z57 := lv_neT c57 (a := 57) rfl; have z58 := lv_neT c58 (a := 58) rfl; have z59 := lv_neT c59 (a := 59) rfl; have z60 := lv_neT c60 (a := 60) rfl; have z61 := lv_neT c61 (a := 61) rfl; omega) (by decide) ?_
  refine JJ_iconst (v := 0) dX9_isSign_106 rfl ?_
  refine JJ_zret dX9_isSign_107 rfl (Or.inl rfl) ?_
  exact ans_i (b2_f (fun z => by rcases z with z | z | z | z | z | z | z | z <;> first | exact c40 z | exact c41 z | exact c59 z | exact c43 z | exact c45 z | exact c42 z | exact c60 z | exact c61 z)).symm
set_option maxHeartbeats 4000000 in
set_option maxRecDepth 100000 in
theorem kc_isWord {q s e : Nat} (hi : q < 13) (h4 : M (x + 2) 4 = nI s) (h3 : M (x + 2) 3 = nI e) (hse : s ≤ e) (he : e ≤ 160) (hC : CWT x S P) (hX : HSC x sc) : KK G sc yX9_isWord cX9_isWord 4 (some .boolean) 4 0 0 [.ref (x + 2), .ref (gK G q)] (n, S, M, L, P) (ansI (bw (wq (fun i => M (x + 3) i) s e (bytS.getD q []))) (n, S, M, L, P)) := by
  obtain ⟨a1, a2, a3⟩ := str_all q hi
  obtain ⟨ln, hln⟩ : ∃ ln, ln = lenS.getD q 0 := ⟨_, rfl⟩
  by_cases hle : ln = e - s
  · skip
    refine KK_of2 [(0, .ref (x + 2)), (1, .ref (gK G q))] (by decide +kernel) (Nat.le_of_ble_eq_true rfl) rfl ?_
    refine JJ_aload_n dX9_isWord_0 rfl rfl ?_
    refine JJ_callVs (rest := []) hi rfl (ks_length hi) (by omega) mi_J0_length_8abf5 lk_X9_38 rfl (Nat.le_of_ble_eq_true rfl) rfl rfl dX9_isWord_1 ?_
    intro v1 μ2 h3
    obtain ⟨rfl, rfl⟩ := h3
    refine JJ_r1 ?_
    refine JJ_eqi (x2 := nI ln) (by rw [hln]) ?_
    refine JJ_aload_n dX9_isWord_4 rfl rfl ?_
    refine JJ_geti (v := nI e) (cis := [9]) (k := 3) fa_X9_23 (by decide) (congrArg Prod.fst (hC.sh (t := 2) (k := 10) (m := 0) (by decide))) rfl (hX.1 _ _ (by omega) (by omega) (by omega)) h3 dX9_isWord_5 ?_
    refine JJ_aload_n dX9_isWord_8 rfl rfl ?_
    refine JJ_geti (v := nI s) (cis := [9]) (k := 4) fa_X9_26 (by decide) (congrArg Prod.fst (hC.sh (t := 2) (k := 10) (m := 0) (by decide))) rfl (hX.1 _ _ (by omega) (by omega) (by omega)) h4 dX9_isWord_9 ?_
    refine JJ_isub dX9_isWord_12 ?_
    refine JJ_eqi (x2 := nI (e - s)) (pk_sub (a := e) (b := s) (by omega)) ?_
    refine JJ_icmp_eq (tgt := 18) dX9_isWord_13 (by decide) (fun _ => ?_) (fun c4 => absurd (congrArg nI hle) c4)
    refine JJ_iconst (v := 0) dX9_isWord_18 rfl ?_
    refine JJ_istore_n (lv' := [(2, .int 0), (0, .ref (x + 2)), (1, .ref (gK G q))]) dX9_isWord_19 rfl (by decide) rfl ?_
    have key : ∀ (d j : Nat), j + d = ln → (∀ i, i < j → M (x + 3) (s + i) = (bytS.getD q []).getD i 0) → JJ G sc yX9_isWord cX9_isWord 4 (some .boolean) 4 0 0 (ansI (bw (wq (fun i => M (x + 3) i) s e (bytS.getD q []))) (n, S, M, L, P)) 20 [(2, .int (nI j)), (0, .ref (x + 2)), (1, .ref (gK G q))] [] (n, S, M, L, P) := by
      intro d
      induction d with
      | zero =>
        intro j hjd h1
        refine JJ_iload_n dX9_isWord_20 rfl rfl ?_
        refine JJ_aload_n dX9_isWord_21 rfl rfl ?_
        refine JJ_callVs (rest := [.int (nI j)]) hi rfl (ks_length hi) (by omega) mi_J0_length_8abf5 lk_X9_38 rfl (Nat.le_of_ble_eq_true rfl) rfl rfl dX9_isWord_22 ?_
        intro v5 μ6 h7
        obtain ⟨rfl, rfl⟩ := h7
        refine JJ_r1 ?_
        refine JJ_eqi (x2 := nI ln) (by rw [hln]) ?_
        refine JJ_icmp_ge (tgt := 70) dX9_isWord_25 (by decide) (fun _ => ?_) (fun c8 => absurd (nI_le (by omega) (by omega)) c8)
        refine JJ_iconst (v := 1) dX9_isWord_70 rfl ?_
        refine JJ_zret dX9_isWord_71 rfl (Or.inr rfl) ?_
        exact ans_i (bw_t ⟨by omega, fun i hi => h1 i (by omega)⟩).symm
      | succ d ih =>
        intro j hjd h1
        refine JJ_iload_n dX9_isWord_20 rfl rfl ?_
        refine JJ_aload_n dX9_isWord_21 rfl rfl ?_
        refine JJ_callVs (rest := [.int (nI j)]) hi rfl (ks_length hi) (by omega) mi_J0_length_8abf5 lk_X9_38 rfl (Nat.le_of_ble_eq_true rfl) rfl rfl dX9_isWord_22 ?_
        intro v9 μ10 h11
        obtain ⟨rfl, rfl⟩ := h11
        refine JJ_r1 ?_
        refine JJ_eqi (x2 := nI ln) (by rw [hln]) ?_
        refine JJ_icmp_ge (tgt := 70) dX9_isWord_25 (by decide) (fun c12 => absurd c12 (nI_ge (by omega) (by omega))) (fun _ => ?_)
        refine JJ_aload_n dX9_isWord_28 rfl rfl ?_
        refine JJ_geti (v := nI s) (cis := [9]) (k := 4) fa_X9_26 (by decide) (congrArg Prod.fst (hC.sh (t := 2) (k := 10) (m := 0) (by decide))) rfl (hX.1 _ _ (by omega) (by omega) (by omega)) h4 dX9_isWord_29 ?_
        refine JJ_iload_n dX9_isWord_32 rfl rfl ?_
        refine JJ_iadd dX9_isWord_33 ?_
        refine JJ_eqi (x2 := nI (s + j)) (nI_add (s) (j)) ?_
        refine JJ_istore_n (lv' := [(3, .int (nI (s + j))), (2, .int (nI j)), (0, .ref (x + 2)), (1, .ref (gK G q))]) dX9_isWord_34 rfl (by decide) rfl ?_
        refine JJ_iload_n dX9_isWord_35 rfl rfl ?_
        refine JJ_if_lt (tgt := 62) dX9_isWord_36 (by decide) (fun c13 => absurd c13 (nI_nn (by omega))) (fun _ => ?_)
        refine JJ_iload_n dX9_isWord_39 rfl rfl ?_
        refine JJ_aload_n dX9_isWord_40 rfl rfl ?_
        refine JJ_getr (q := x + 3) (cis := [9]) (k := 0) fa_X9_9 (by decide) (congrArg Prod.fst (hC.sh (t := 2) (k := 10) (m := 0) (by decide))) rfl (hC.rf (t := 2) (s := 0) (u := 3) (by decide)) dX9_isWord_41 ?_
        refine JJ_alen (t := 0) (hC.sh (t := 3) (k := 20) (m := 160) (by decide)) (by decide) dX9_isWord_44 ?_
        refine JJ_icmp_ge (tgt := 62) dX9_isWord_45 (by decide) (fun c14 => absurd c14 (nI_ge (b := 160) (by omega) (by omega))) (fun _ => ?_)
        refine JJ_aload_n dX9_isWord_48 rfl rfl ?_
        refine JJ_iload_n dX9_isWord_49 rfl rfl ?_
        refine JJ_callVs (rest := []) hi rfl (ks_char (k := j) hi (by omega)) (by omega) mi_J0_charAt_5068e lk_X9_44 rfl (Nat.le_of_ble_eq_true rfl) rfl rfl dX9_isWord_50 ?_
        intro v15 μ16 h17
        obtain ⟨rfl, rfl⟩ := h17
        refine JJ_r1 ?_
        refine JJ_aload_n dX9_isWord_53 rfl rfl ?_
        refine JJ_getr (q := x + 3) (cis := [9]) (k := 0) fa_X9_9 (by decide) (congrArg Prod.fst (hC.sh (t := 2) (k := 10) (m := 0) (by decide))) rfl (hC.rf (t := 2) (s := 0) (u := 3) (by decide)) dX9_isWord_54 ?_
        refine JJ_iload_n dX9_isWord_57 rfl rfl ?_
        refine JJ_ialdX (v := M (x + 3) (s + j)) (hC.sh (t := 3) (k := 20) (m := 160) (by decide)) (IX_nI (by omega) (by omega)) (hX.1 _ _ (by omega) (by omega) (by omega)) rfl dX9_isWord_58 ?_
        refine JJ_icmp_eq (tgt := 64) dX9_isWord_59 (by decide) (fun c18 => ?_) (fun c18 => ?_)
        · skip
          refine JJ_iinc (v := nI (j + 1)) (lv' := [(2, .int (nI (j + 1))), (3, .int (nI (s + j))), (0, .ref (x + 2)), (1, .ref (gK G q))]) dX9_isWord_64 rfl (nI_add (j) 1) (by decide) rfl ?_
          refine JJ_goto (tgt := 20) dX9_isWord_67 (by decide) ?_
          refine JJ.pick [0, 2, 3] rfl ?_
          refine ih (j + 1) (by omega) (fun i hi => ?_)
          by_cases ei : i = j
          · rw [ei]; exact c18.symm
          · exact h1 i (by omega)
        · skip
          refine JJ_iconst (v := 0) dX9_isWord_62 rfl ?_
          refine JJ_zret dX9_isWord_63 rfl (Or.inl rfl) ?_
          exact ans_i (bw_f (fun z => c18 (z.2 j (by omega)).symm)).symm
    refine JJ.pick [0, 1, 2] rfl ?_
    exact key ln 0 (by omega) (fun i hi => absurd hi (Nat.not_lt_zero _))
  · skip
    refine KK_of2 [(0, .ref (x + 2)), (1, .ref (gK G q))] (by decide +kernel) (Nat.le_of_ble_eq_true rfl) rfl ?_
    refine JJ_aload_n dX9_isWord_0 rfl rfl ?_
    refine JJ_callVs (rest := []) hi rfl (ks_length hi) (by omega) mi_J0_length_8abf5 lk_X9_38 rfl (Nat.le_of_ble_eq_true rfl) rfl rfl dX9_isWord_1 ?_
    intro v19 μ20 h21
    obtain ⟨rfl, rfl⟩ := h21
    refine JJ_r1 ?_
    refine JJ_eqi (x2 := nI ln) (by rw [hln]) ?_
    refine JJ_aload_n dX9_isWord_4 rfl rfl ?_
    refine JJ_geti (v := nI e) (cis := [9]) (k := 3) fa_X9_23 (by decide) (congrArg Prod.fst (hC.sh (t := 2) (k := 10) (m := 0) (by decide))) rfl (hX.1 _ _ (by omega) (by omega) (by omega)) h3 dX9_isWord_5 ?_
    refine JJ_aload_n dX9_isWord_8 rfl rfl ?_
    refine JJ_geti (v := nI s) (cis := [9]) (k := 4) fa_X9_26 (by decide) (congrArg Prod.fst (hC.sh (t := 2) (k := 10) (m := 0) (by decide))) rfl (hX.1 _ _ (by omega) (by omega) (by omega)) h4 dX9_isWord_9 ?_
    refine JJ_isub dX9_isWord_12 ?_
    refine JJ_eqi (x2 := nI (e - s)) (pk_sub (a := e) (b := s) (by omega)) ?_
    refine JJ_icmp_eq (tgt := 18) dX9_isWord_13 (by decide) (fun c22 => absurd c22 (fun y => hle (nI_inj (by omega) (by omega) y))) (fun _ => ?_)
    refine JJ_iconst (v := 0) dX9_isWord_16 rfl ?_
    refine JJ_zret dX9_isWord_17 rfl (Or.inl rfl) ?_
    exact ans_i (bw_f (fun z => hle (by rw [hln, a1]; exact z.1.symm))).symm
set_option maxHeartbeats 4000000 in
set_option maxRecDepth 100000 in
theorem kc_nameOfWord {s e : Nat} (h4 : M (x + 2) 4 = nI s) (h3 : M (x + 2) 3 = nI e) (hse : s ≤ e) (he : e ≤ 160) (hC : CWT x S P) (hX : HSC x sc) : KK G sc yX9_nameOfWord cX9_nameOfWord 1 (some .int) 5 0 0 [.ref (x + 2)] (n, S, M, L, P) (ansI (wname (fun i => M (x + 3) i) s e) (n, S, M, L, P)) := by
  refine KK_of2 [(0, .ref (x + 2))] (by decide +kernel) (Nat.le_of_ble_eq_true rfl) rfl ?_
  refine JJ_aload_n dX9_nameOfWord_0 rfl rfl ?_
  refine JJ_ldcS (i := 1) dX9_nameOfWord_1 (by decide) rfl ?_
  refine JJ_callV (rest := []) (congrArg Prod.fst (hC.sh (t := 2) (k := 10) (m := 0) (by decide))) rfl rfl (kc_isWord (q := 1) (by decide) h4 h3 hse he hC hX) (by omega) mi_X9_isWord lk_X9_123 rfl (Nat.le_of_ble_eq_true rfl) rfl rfl dX9_nameOfWord_3 ?_
  intro v1 μ2 h3
  obtain ⟨rfl, rfl⟩ := h3
  refine JJ_r1 ?_
  refine JJ_if_eq (tgt := 11) dX9_nameOfWord_6 (by decide) (fun c4 => ?_) (fun c4 => ?_)
  · skip
    refine JJ_aload_n dX9_nameOfWord_11 rfl rfl ?_
    refine JJ_ldcS (i := 2) dX9_nameOfWord_12 (by decide) rfl ?_
    refine JJ_callV (rest := []) (congrArg Prod.fst (hC.sh (t := 2) (k := 10) (m := 0) (by decide))) rfl rfl (kc_isWord (q := 2) (by decide) h4 h3 hse he hC hX) (by omega) mi_X9_isWord lk_X9_123 rfl (Nat.le_of_ble_eq_true rfl) rfl rfl dX9_nameOfWord_14 ?_
    intro v5 μ6 h7
    obtain ⟨rfl, rfl⟩ := h7
    refine JJ_r1 ?_
    refine JJ_if_eq (tgt := 23) dX9_nameOfWord_17 (by decide) (fun c8 => ?_) (fun c8 => ?_)
    · skip
      refine JJ_aload_n dX9_nameOfWord_23 rfl rfl ?_
      refine JJ_ldcS (i := 3) dX9_nameOfWord_24 (by decide) rfl ?_
      refine JJ_callV (rest := []) (congrArg Prod.fst (hC.sh (t := 2) (k := 10) (m := 0) (by decide))) rfl rfl (kc_isWord (q := 3) (by decide) h4 h3 hse he hC hX) (by omega) mi_X9_isWord lk_X9_123 rfl (Nat.le_of_ble_eq_true rfl) rfl rfl dX9_nameOfWord_26 ?_
      intro v9 μ10 h11
      obtain ⟨rfl, rfl⟩ := h11
      refine JJ_r1 ?_
      refine JJ_if_eq (tgt := 35) dX9_nameOfWord_29 (by decide) (fun c12 => ?_) (fun c12 => ?_)
      · skip
        refine JJ_aload_n dX9_nameOfWord_35 rfl rfl ?_
        refine JJ_ldcS (i := 4) dX9_nameOfWord_36 (by decide) rfl ?_
        refine JJ_callV (rest := []) (congrArg Prod.fst (hC.sh (t := 2) (k := 10) (m := 0) (by decide))) rfl rfl (kc_isWord (q := 4) (by decide) h4 h3 hse he hC hX) (by omega) mi_X9_isWord lk_X9_123 rfl (Nat.le_of_ble_eq_true rfl) rfl rfl dX9_nameOfWord_38 ?_
        intro v13 μ14 h15
        obtain ⟨rfl, rfl⟩ := h15
        refine JJ_r1 ?_
        refine JJ_if_eq (tgt := 47) dX9_nameOfWord_41 (by decide) (fun c16 => ?_) (fun c16 => ?_)
        · skip
          refine JJ_aload_n dX9_nameOfWord_47 rfl rfl ?_
          refine JJ_ldcS (i := 5) dX9_nameOfWord_48 (by decide) rfl ?_
          refine JJ_callV (rest := []) (congrArg Prod.fst (hC.sh (t := 2) (k := 10) (m := 0) (by decide))) rfl rfl (kc_isWord (q := 5) (by decide) h4 h3 hse he hC hX) (by omega) mi_X9_isWord lk_X9_123 rfl (Nat.le_of_ble_eq_true rfl) rfl rfl dX9_nameOfWord_50 ?_
          intro v17 μ18 h19
          obtain ⟨rfl, rfl⟩ := h19
          refine JJ_r1 ?_
          refine JJ_if_eq (tgt := 59) dX9_nameOfWord_53 (by decide) (fun c20 => ?_) (fun c20 => ?_)
          · skip
            refine JJ_aload_n dX9_nameOfWord_59 rfl rfl ?_
            refine JJ_ldcS (i := 6) dX9_nameOfWord_60 (by decide) rfl ?_
            refine JJ_callV (rest := []) (congrArg Prod.fst (hC.sh (t := 2) (k := 10) (m := 0) (by decide))) rfl rfl (kc_isWord (q := 6) (by decide) h4 h3 hse he hC hX) (by omega) mi_X9_isWord lk_X9_123 rfl (Nat.le_of_ble_eq_true rfl) rfl rfl dX9_nameOfWord_62 ?_
            intro v21 μ22 h23
            obtain ⟨rfl, rfl⟩ := h23
            refine JJ_r1 ?_
            refine JJ_if_eq (tgt := 73) dX9_nameOfWord_65 (by decide) (fun c24 => ?_) (fun c24 => ?_)
            · skip
              refine JJ_iconst (v := 0) dX9_nameOfWord_73 rfl ?_
              refine JJ_iret dX9_nameOfWord_74 rfl ?_
              exact ans_i (by unfold wname; rw [if_neg (show ¬ wq (fun i => M (x + 3) i) s e wFar from bw_0.mp c4), if_neg (show ¬ wq (fun i => M (x + 3) i) s e wWarm from bw_0.mp c8), if_neg (show ¬ wq (fun i => M (x + 3) i) s e wLegs from bw_0.mp c12), if_neg (show ¬ wq (fun i => M (x + 3) i) s e wQuick from bw_0.mp c16), if_neg (show ¬ wq (fun i => M (x + 3) i) s e wNumber from bw_0.mp c20), if_neg (show ¬ wq (fun i => M (x + 3) i) s e wCell from bw_0.mp c24)])
            · skip
              refine JJ_bipush (v := (-6)) dX9_nameOfWord_68 rfl ?_
              refine JJ_goto (tgt := 74) dX9_nameOfWord_70 (by decide) ?_
              refine JJ_iret dX9_nameOfWord_74 rfl ?_
              exact ans_i (by unfold wname; rw [if_neg (show ¬ wq (fun i => M (x + 3) i) s e wFar from bw_0.mp c4), if_neg (show ¬ wq (fun i => M (x + 3) i) s e wWarm from bw_0.mp c8), if_neg (show ¬ wq (fun i => M (x + 3) i) s e wLegs from bw_0.mp c12), if_neg (show ¬ wq (fun i => M (x + 3) i) s e wQuick from bw_0.mp c16), if_neg (show ¬ wq (fun i => M (x + 3) i) s e wNumber from bw_0.mp c20), if_pos (show wq (fun i => M (x + 3) i) s e wCell from bw_n.mp c24)])
          · skip
            refine JJ_bipush (v := (-5)) dX9_nameOfWord_56 rfl ?_
            refine JJ_iret dX9_nameOfWord_58 rfl ?_
            exact ans_i (by unfold wname; rw [if_neg (show ¬ wq (fun i => M (x + 3) i) s e wFar from bw_0.mp c4), if_neg (show ¬ wq (fun i => M (x + 3) i) s e wWarm from bw_0.mp c8), if_neg (show ¬ wq (fun i => M (x + 3) i) s e wLegs from bw_0.mp c12), if_neg (show ¬ wq (fun i => M (x + 3) i) s e wQuick from bw_0.mp c16), if_pos (show wq (fun i => M (x + 3) i) s e wNumber from bw_n.mp c20)])
        · skip
          refine JJ_bipush (v := (-4)) dX9_nameOfWord_44 rfl ?_
          refine JJ_iret dX9_nameOfWord_46 rfl ?_
          exact ans_i (by unfold wname; rw [if_neg (show ¬ wq (fun i => M (x + 3) i) s e wFar from bw_0.mp c4), if_neg (show ¬ wq (fun i => M (x + 3) i) s e wWarm from bw_0.mp c8), if_neg (show ¬ wq (fun i => M (x + 3) i) s e wLegs from bw_0.mp c12), if_pos (show wq (fun i => M (x + 3) i) s e wQuick from bw_n.mp c16)])
      · skip
        refine JJ_bipush (v := (-3)) dX9_nameOfWord_32 rfl ?_
        refine JJ_iret dX9_nameOfWord_34 rfl ?_
        exact ans_i (by unfold wname; rw [if_neg (show ¬ wq (fun i => M (x + 3) i) s e wFar from bw_0.mp c4), if_neg (show ¬ wq (fun i => M (x + 3) i) s e wWarm from bw_0.mp c8), if_pos (show wq (fun i => M (x + 3) i) s e wLegs from bw_n.mp c12)])
    · skip
      refine JJ_bipush (v := (-2)) dX9_nameOfWord_20 rfl ?_
      refine JJ_iret dX9_nameOfWord_22 rfl ?_
      exact ans_i (by unfold wname; rw [if_neg (show ¬ wq (fun i => M (x + 3) i) s e wFar from bw_0.mp c4), if_pos (show wq (fun i => M (x + 3) i) s e wWarm from bw_n.mp c8)])
  · skip
    refine JJ_iconst (v := (-1)) dX9_nameOfWord_9 rfl ?_
    refine JJ_iret dX9_nameOfWord_10 rfl ?_
    exact ans_i (by unfold wname; rw [if_pos (show wq (fun i => M (x + 3) i) s e wFar from bw_n.mp c4)])
set_option maxHeartbeats 4000000 in
set_option maxRecDepth 100000 in
theorem kc_keyOfWord {s e : Nat} (h4 : M (x + 2) 4 = nI s) (h3 : M (x + 2) 3 = nI e) (hse : s ≤ e) (he : e ≤ 160) (hC : CWT x S P) (hX : HSC x sc) : KK G sc yX9_keyOfWord cX9_keyOfWord 1 (some .int) 5 0 0 [.ref (x + 2)] (n, S, M, L, P) (ansI (wkey (fun i => M (x + 3) i) s e) (n, S, M, L, P)) := by
  refine KK_of2 [(0, .ref (x + 2))] (by decide +kernel) (Nat.le_of_ble_eq_true rfl) rfl ?_
  refine JJ_aload_n dX9_keyOfWord_0 rfl rfl ?_
  refine JJ_ldcS (i := 7) dX9_keyOfWord_1 (by decide) rfl ?_
  refine JJ_callV (rest := []) (congrArg Prod.fst (hC.sh (t := 2) (k := 10) (m := 0) (by decide))) rfl rfl (kc_isWord (q := 7) (by decide) h4 h3 hse he hC hX) (by omega) mi_X9_isWord lk_X9_123 rfl (Nat.le_of_ble_eq_true rfl) rfl rfl dX9_keyOfWord_3 ?_
  intro v1 μ2 h3
  obtain ⟨rfl, rfl⟩ := h3
  refine JJ_r1 ?_
  refine JJ_if_eq (tgt := 11) dX9_keyOfWord_6 (by decide) (fun c4 => ?_) (fun c4 => ?_)
  · skip
    refine JJ_aload_n dX9_keyOfWord_11 rfl rfl ?_
    refine JJ_ldcS (i := 8) dX9_keyOfWord_12 (by decide) rfl ?_
    refine JJ_callV (rest := []) (congrArg Prod.fst (hC.sh (t := 2) (k := 10) (m := 0) (by decide))) rfl rfl (kc_isWord (q := 8) (by decide) h4 h3 hse he hC hX) (by omega) mi_X9_isWord lk_X9_123 rfl (Nat.le_of_ble_eq_true rfl) rfl rfl dX9_keyOfWord_14 ?_
    intro v5 μ6 h7
    obtain ⟨rfl, rfl⟩ := h7
    refine JJ_r1 ?_
    refine JJ_if_eq (tgt := 22) dX9_keyOfWord_17 (by decide) (fun c8 => ?_) (fun c8 => ?_)
    · skip
      refine JJ_aload_n dX9_keyOfWord_22 rfl rfl ?_
      refine JJ_ldcS (i := 9) dX9_keyOfWord_23 (by decide) rfl ?_
      refine JJ_callV (rest := []) (congrArg Prod.fst (hC.sh (t := 2) (k := 10) (m := 0) (by decide))) rfl rfl (kc_isWord (q := 9) (by decide) h4 h3 hse he hC hX) (by omega) mi_X9_isWord lk_X9_123 rfl (Nat.le_of_ble_eq_true rfl) rfl rfl dX9_keyOfWord_25 ?_
      intro v9 μ10 h11
      obtain ⟨rfl, rfl⟩ := h11
      refine JJ_r1 ?_
      refine JJ_if_eq (tgt := 33) dX9_keyOfWord_28 (by decide) (fun c12 => ?_) (fun c12 => ?_)
      · skip
        refine JJ_aload_n dX9_keyOfWord_33 rfl rfl ?_
        refine JJ_ldcS (i := 10) dX9_keyOfWord_34 (by decide) rfl ?_
        refine JJ_callV (rest := []) (congrArg Prod.fst (hC.sh (t := 2) (k := 10) (m := 0) (by decide))) rfl rfl (kc_isWord (q := 10) (by decide) h4 h3 hse he hC hX) (by omega) mi_X9_isWord lk_X9_123 rfl (Nat.le_of_ble_eq_true rfl) rfl rfl dX9_keyOfWord_36 ?_
        intro v13 μ14 h15
        obtain ⟨rfl, rfl⟩ := h15
        refine JJ_r1 ?_
        refine JJ_if_eq (tgt := 45) dX9_keyOfWord_39 (by decide) (fun c16 => ?_) (fun c16 => ?_)
        · skip
          refine JJ_aload_n dX9_keyOfWord_45 rfl rfl ?_
          refine JJ_ldcS (i := 11) dX9_keyOfWord_46 (by decide) rfl ?_
          refine JJ_callV (rest := []) (congrArg Prod.fst (hC.sh (t := 2) (k := 10) (m := 0) (by decide))) rfl rfl (kc_isWord (q := 11) (by decide) h4 h3 hse he hC hX) (by omega) mi_X9_isWord lk_X9_123 rfl (Nat.le_of_ble_eq_true rfl) rfl rfl dX9_keyOfWord_48 ?_
          intro v17 μ18 h19
          obtain ⟨rfl, rfl⟩ := h19
          refine JJ_r1 ?_
          refine JJ_if_eq (tgt := 57) dX9_keyOfWord_51 (by decide) (fun c20 => ?_) (fun c20 => ?_)
          · skip
            refine JJ_aload_n dX9_keyOfWord_57 rfl rfl ?_
            refine JJ_ldcS (i := 12) dX9_keyOfWord_58 (by decide) rfl ?_
            refine JJ_callV (rest := []) (congrArg Prod.fst (hC.sh (t := 2) (k := 10) (m := 0) (by decide))) rfl rfl (kc_isWord (q := 12) (by decide) h4 h3 hse he hC hX) (by omega) mi_X9_isWord lk_X9_123 rfl (Nat.le_of_ble_eq_true rfl) rfl rfl dX9_keyOfWord_60 ?_
            intro v21 μ22 h23
            obtain ⟨rfl, rfl⟩ := h23
            refine JJ_r1 ?_
            refine JJ_if_eq (tgt := 71) dX9_keyOfWord_63 (by decide) (fun c24 => ?_) (fun c24 => ?_)
            · skip
              refine JJ_bipush (v := 9) dX9_keyOfWord_71 rfl ?_
              refine JJ_iret dX9_keyOfWord_73 rfl ?_
              exact ans_i (by unfold wkey; rw [if_neg (show ¬ wq (fun i => M (x + 3) i) s e wFlies from bw_0.mp c4), if_neg (show ¬ wq (fun i => M (x + 3) i) s e wSteps from bw_0.mp c8), if_neg (show ¬ wq (fun i => M (x + 3) i) s e wSlips from bw_0.mp c12), if_neg (show ¬ wq (fun i => M (x + 3) i) s e wOr from bw_0.mp c16), if_neg (show ¬ wq (fun i => M (x + 3) i) s e wAnd from bw_0.mp c20), if_neg (show ¬ wq (fun i => M (x + 3) i) s e wNot from bw_0.mp c24)])
            · skip
              refine JJ_bipush (v := 8) dX9_keyOfWord_66 rfl ?_
              refine JJ_goto (tgt := 73) dX9_keyOfWord_68 (by decide) ?_
              refine JJ_iret dX9_keyOfWord_73 rfl ?_
              exact ans_i (by unfold wkey; rw [if_neg (show ¬ wq (fun i => M (x + 3) i) s e wFlies from bw_0.mp c4), if_neg (show ¬ wq (fun i => M (x + 3) i) s e wSteps from bw_0.mp c8), if_neg (show ¬ wq (fun i => M (x + 3) i) s e wSlips from bw_0.mp c12), if_neg (show ¬ wq (fun i => M (x + 3) i) s e wOr from bw_0.mp c16), if_neg (show ¬ wq (fun i => M (x + 3) i) s e wAnd from bw_0.mp c20), if_pos (show wq (fun i => M (x + 3) i) s e wNot from bw_n.mp c24)])
          · skip
            refine JJ_bipush (v := 7) dX9_keyOfWord_54 rfl ?_
            refine JJ_iret dX9_keyOfWord_56 rfl ?_
            exact ans_i (by unfold wkey; rw [if_neg (show ¬ wq (fun i => M (x + 3) i) s e wFlies from bw_0.mp c4), if_neg (show ¬ wq (fun i => M (x + 3) i) s e wSteps from bw_0.mp c8), if_neg (show ¬ wq (fun i => M (x + 3) i) s e wSlips from bw_0.mp c12), if_neg (show ¬ wq (fun i => M (x + 3) i) s e wOr from bw_0.mp c16), if_pos (show wq (fun i => M (x + 3) i) s e wAnd from bw_n.mp c20)])
        · skip
          refine JJ_bipush (v := 6) dX9_keyOfWord_42 rfl ?_
          refine JJ_iret dX9_keyOfWord_44 rfl ?_
          exact ans_i (by unfold wkey; rw [if_neg (show ¬ wq (fun i => M (x + 3) i) s e wFlies from bw_0.mp c4), if_neg (show ¬ wq (fun i => M (x + 3) i) s e wSteps from bw_0.mp c8), if_neg (show ¬ wq (fun i => M (x + 3) i) s e wSlips from bw_0.mp c12), if_pos (show wq (fun i => M (x + 3) i) s e wOr from bw_n.mp c16)])
      · skip
        refine JJ_iconst (v := 5) dX9_keyOfWord_31 rfl ?_
        refine JJ_iret dX9_keyOfWord_32 rfl ?_
        exact ans_i (by unfold wkey; rw [if_neg (show ¬ wq (fun i => M (x + 3) i) s e wFlies from bw_0.mp c4), if_neg (show ¬ wq (fun i => M (x + 3) i) s e wSteps from bw_0.mp c8), if_pos (show wq (fun i => M (x + 3) i) s e wSlips from bw_n.mp c12)])
    · skip
      refine JJ_iconst (v := 4) dX9_keyOfWord_20 rfl ?_
      refine JJ_iret dX9_keyOfWord_21 rfl ?_
      exact ans_i (by unfold wkey; rw [if_neg (show ¬ wq (fun i => M (x + 3) i) s e wFlies from bw_0.mp c4), if_pos (show wq (fun i => M (x + 3) i) s e wSteps from bw_n.mp c8)])
  · skip
    refine JJ_iconst (v := 3) dX9_keyOfWord_9 rfl ?_
    refine JJ_iret dX9_keyOfWord_10 rfl ?_
    exact ans_i (by unfold wkey; rw [if_pos (show wq (fun i => M (x + 3) i) s e wFlies from bw_n.mp c4)])
end C28
