section REF1
variable {G : Gx} {sc : Nat → Nat → Prop} {n : Nat} {S : Nat → Nat × Nat} {M : Nat → Nat → Int32} {L : Nat → Nat → Int64} {P : Nat → Nat → Option Nat} {o : Nat}

set_option maxHeartbeats 4000000 in
set_option maxRecDepth 100000 in
theorem kr_in32 {v : Int32} {lo hi : Int64} {a b : Int} (hlo : lo.toInt = a) (hhi : hi.toInt = b) : KK G sc yX12_in cX12_in 6 (some .boolean) 0 0 0 [.long v.toInt64, .long lo, .long hi] (n, S, M, L, P) (ansI (b2 (a ≤ v.toInt ∧ v.toInt ≤ b)) (n, S, M, L, P)) := by
  refine KK_of2 [(0, .long v.toInt64), (2, .long lo), (4, .long hi)] (by decide +kernel) (Nat.le_of_ble_eq_true rfl) rfl ?_
  refine JJ_lload_n dX12_in_0 rfl rfl ?_
  refine JJ_lload_n dX12_in_1 rfl rfl ?_
  refine JJ_lcmp dX12_in_2 ?_
  refine JJ_if_lt (tgt := 17) dX12_in_3 (by decide) (fun c1 => ?_) (fun c1 => ?_)
  · skip
    refine JJ_iconst (v := 0) dX12_in_17 rfl ?_
    refine JJ_zret dX12_in_18 rfl (Or.inl rfl) ?_
    exact ans_i (by simp only [lcmp_lt, lcmp_gt, i_wide, hlo, hhi] at *; first | exact (b2_t (by omega)).symm | exact (b2_f (by omega)).symm)
  · skip
    refine JJ_lload_n dX12_in_6 rfl rfl ?_
    refine JJ_lload dX12_in_7 rfl ?_
    refine JJ_lcmp dX12_in_9 ?_
    refine JJ_if_gt (tgt := 17) dX12_in_10 (by decide) (fun c2 => ?_) (fun c2 => ?_)
    · skip
      refine JJ_iconst (v := 0) dX12_in_17 rfl ?_
      refine JJ_zret dX12_in_18 rfl (Or.inl rfl) ?_
      exact ans_i (by simp only [lcmp_lt, lcmp_gt, i_wide, hlo, hhi] at *; first | exact (b2_t (by omega)).symm | exact (b2_f (by omega)).symm)
    · skip
      refine JJ_iconst (v := 1) dX12_in_13 rfl ?_
      refine JJ_goto (tgt := 18) dX12_in_14 (by decide) ?_
      refine JJ_zret dX12_in_18 rfl (Or.inr rfl) ?_
      exact ans_i (by simp only [lcmp_lt, lcmp_gt, i_wide, hlo, hhi] at *; first | exact (b2_t (by omega)).symm | exact (b2_f (by omega)).symm)
set_option maxHeartbeats 4000000 in
set_option maxRecDepth 100000 in
theorem kr_within {v lo hi : Int32} : KK G sc yX12_within cX12_within 3 (some .int) 0 0 0 [.int v, .int lo, .int hi] (n, S, M, L, P) (ansI (s_within v lo hi) (n, S, M, L, P)) := by
  refine KK_of2 [(0, .int v), (1, .int lo), (2, .int hi)] (by decide +kernel) (Nat.le_of_ble_eq_true rfl) rfl ?_
  refine JJ_iload_n dX12_within_0 rfl rfl ?_
  refine JJ_iload_n dX12_within_1 rfl rfl ?_
  refine JJ_icmp_ge (tgt := 9) dX12_within_2 (by decide) (fun c1 => ?_) (fun c1 => ?_)
  · skip
    refine JJ_iload_n dX12_within_9 rfl rfl ?_
    refine JJ_iload_n dX12_within_10 rfl rfl ?_
    refine JJ_icmp_le (tgt := 18) dX12_within_11 (by decide) (fun c2 => ?_) (fun c2 => ?_)
    · skip
      refine JJ_iload_n dX12_within_18 rfl rfl ?_
      refine JJ_iret dX12_within_19 rfl ?_
      exact ans_i (by unfold s_within; simp only [*, if_true, if_false])
    · skip
      refine JJ_iload_n dX12_within_14 rfl rfl ?_
      refine JJ_goto (tgt := 19) dX12_within_15 (by decide) ?_
      refine JJ_iret dX12_within_19 rfl ?_
      exact ans_i (by unfold s_within; simp only [*, if_true, if_false])
  · skip
    refine JJ_iload_n dX12_within_5 rfl rfl ?_
    refine JJ_goto (tgt := 19) dX12_within_6 (by decide) ?_
    refine JJ_iret dX12_within_19 rfl ?_
    exact ans_i (by unfold s_within; simp only [*, if_true, if_false])
set_option maxHeartbeats 4000000 in
set_option maxRecDepth 100000 in
theorem kr_isPlayer {v : Int32} : KK G sc yX12_isPlayer cX12_isPlayer 1 (some .boolean) 1 0 0 [.int v] (n, S, M, L, P) (ansI (b2 (0 ≤ v.toInt ∧ v.toInt ≤ 1)) (n, S, M, L, P)) := by
  refine KK_of2 [(0, .int v)] (by decide +kernel) (Nat.le_of_ble_eq_true rfl) rfl ?_
  refine JJ_iload_n dX12_isPlayer_0 rfl rfl ?_
  refine JJ_i2l dX12_isPlayer_1 ?_
  refine JJ_lconst (v := 0) dX12_isPlayer_2 rfl ?_
  refine JJ_lconst (v := 1) dX12_isPlayer_3 rfl ?_
  refine JJ_callS (rest := []) (kr_in32 (v := v) (lo := 0) (hi := 1) (a := 0) (b := 1) rfl rfl) (by decide) mi_X12_in lk_X12_82 rfl (Nat.le_of_ble_eq_true rfl) rfl rfl dX12_isPlayer_4 ?_
  intro v1 μ2 h3
  obtain ⟨rfl, rfl⟩ := h3
  refine JJ_r1 ?_
  refine JJ_zret dX12_isPlayer_7 rfl b2_z ?_
  exact ans_i rfl
set_option maxHeartbeats 4000000 in
set_option maxRecDepth 100000 in
theorem kr_isCell {v : Int32} : KK G sc yX12_isCell cX12_isCell 1 (some .boolean) 1 0 0 [.int v] (n, S, M, L, P) (ansI (b2 (0 ≤ v.toInt ∧ v.toInt ≤ 24)) (n, S, M, L, P)) := by
  refine KK_of2 [(0, .int v)] (by decide +kernel) (Nat.le_of_ble_eq_true rfl) rfl ?_
  refine JJ_iload_n dX12_isCell_0 rfl rfl ?_
  refine JJ_i2l dX12_isCell_1 ?_
  refine JJ_lconst (v := 0) dX12_isCell_2 rfl ?_
  refine JJ_ldc2 (v := 24) dX12_isCell_3 tb_1108 ?_
  refine JJ_callS (rest := []) (kr_in32 (v := v) (lo := 0) (hi := 24) (a := 0) (b := 24) rfl rfl) (by decide) mi_X12_in lk_X12_82 rfl (Nat.le_of_ble_eq_true rfl) rfl rfl dX12_isCell_6 ?_
  intro v1 μ2 h3
  obtain ⟨rfl, rfl⟩ := h3
  refine JJ_r1 ?_
  refine JJ_zret dX12_isCell_9 rfl b2_z ?_
  exact ans_i rfl
set_option maxHeartbeats 4000000 in
set_option maxRecDepth 100000 in
theorem kr_isSheet {v : Int32} : KK G sc yX12_isSheet cX12_isSheet 1 (some .boolean) 1 0 0 [.int v] (n, S, M, L, P) (ansI (b2 (0 ≤ v.toInt ∧ v.toInt ≤ 3)) (n, S, M, L, P)) := by
  refine KK_of2 [(0, .int v)] (by decide +kernel) (Nat.le_of_ble_eq_true rfl) rfl ?_
  refine JJ_iload_n dX12_isSheet_0 rfl rfl ?_
  refine JJ_i2l dX12_isSheet_1 ?_
  refine JJ_lconst (v := 0) dX12_isSheet_2 rfl ?_
  refine JJ_ldc2 (v := 3) dX12_isSheet_3 tb_1257 ?_
  refine JJ_callS (rest := []) (kr_in32 (v := v) (lo := 0) (hi := 3) (a := 0) (b := 3) rfl rfl) (by decide) mi_X12_in lk_X12_82 rfl (Nat.le_of_ble_eq_true rfl) rfl rfl dX12_isSheet_6 ?_
  intro v1 μ2 h3
  obtain ⟨rfl, rfl⟩ := h3
  refine JJ_r1 ?_
  refine JJ_zret dX12_isSheet_9 rfl b2_z ?_
  exact ans_i rfl
set_option maxHeartbeats 4000000 in
set_option maxRecDepth 100000 in
theorem kr_isStroke {v : Int32} (hR : RWF o S P) (hN : HSR o sc) : KK G sc yX12_isStroke cX12_isStroke 2 (some .boolean) 1 0 0 [.ref o, .int v] (n, S, M, L, P) (ansI (b2 (0 ≤ v.toInt ∧ v.toInt ≤ (M o 15 - 1).toInt)) (n, S, M, L, P)) := by
  refine KK_of2 [(0, .ref o), (1, .int v)] (by decide +kernel) (Nat.le_of_ble_eq_true rfl) rfl ?_
  refine JJ_iload_n dX12_isStroke_0 rfl rfl ?_
  refine JJ_i2l dX12_isStroke_1 ?_
  refine JJ_lconst (v := 0) dX12_isStroke_2 rfl ?_
  refine JJ_aload_n dX12_isStroke_3 rfl rfl ?_
  refine JJ_geti (v := M o 15) (cis := [12]) (k := 15) fa_X12_79 (by decide) hR.1 rfl (hN.1 15 (by decide)) rfl dX12_isStroke_4 ?_
  refine JJ_iconst (v := 1) dX12_isStroke_7 rfl ?_
  refine JJ_isub dX12_isStroke_8 ?_
  refine JJ_i2l dX12_isStroke_9 ?_
  refine JJ_callS (rest := []) (kr_in32 (v := v) (lo := 0) (hi := ((M o 15) - 1).toInt64) (a := 0) (b := (((M o 15) - 1)).toInt) rfl (i_wide _)) (by decide) mi_X12_in lk_X12_82 rfl (Nat.le_of_ble_eq_true rfl) rfl rfl dX12_isStroke_10 ?_
  intro v1 μ2 h3
  obtain ⟨rfl, rfl⟩ := h3
  refine JJ_r1 ?_
  refine JJ_zret dX12_isStroke_13 rfl b2_z ?_
  exact ans_i rfl
set_option maxHeartbeats 4000000 in
set_option maxRecDepth 100000 in
theorem kr_plain {v : Int32} : KK G sc yX12_plain cX12_plain 1 (some .int) 0 0 0 [.int v] (n, S, M, L, P) (ansI (s_abs v) (n, S, M, L, P)) := by
  refine KK_of2 [(0, .int v)] (by decide +kernel) (Nat.le_of_ble_eq_true rfl) rfl ?_
  refine JJ_iload_n dX12_plain_0 rfl rfl ?_
  refine JJ_if_ge (tgt := 9) dX12_plain_1 (by decide) (fun c1 => ?_) (fun c1 => ?_)
  · skip
    refine JJ_iload_n dX12_plain_9 rfl rfl ?_
    refine JJ_iret dX12_plain_10 rfl ?_
    exact ans_i (by unfold s_abs; simp only [i_lt, i_le, Int32.toInt_zero] at *; first | (rw [if_pos (by omega)]) | (rw [if_neg (by omega)]))
  · skip
    refine JJ_iload_n dX12_plain_4 rfl rfl ?_
    refine JJ_ineg dX12_plain_5 ?_
    refine JJ_goto (tgt := 10) dX12_plain_6 (by decide) ?_
    refine JJ_iret dX12_plain_10 rfl ?_
    exact ans_i (by unfold s_abs; simp only [i_lt, i_le, Int32.toInt_zero] at *; first | (rw [if_pos (by omega)]) | (rw [if_neg (by omega)]))
set_option maxHeartbeats 4000000 in
set_option maxRecDepth 100000 in
theorem kr_far {a b : Int32} : KK G sc yX12_farOf cX12_farOf 4 (some .int) 1 0 0 [.int a, .int b] (n, S, M, L, P) (ansI (s_far a b) (n, S, M, L, P)) := by
  refine KK_of2 [(0, .int a), (1, .int b)] (by decide +kernel) (Nat.le_of_ble_eq_true rfl) rfl ?_
  refine JJ_iload_n dX12_farOf_0 rfl rfl ?_
  refine JJ_iconst (v := 5) dX12_farOf_1 rfl ?_
  refine JJ_irem dX12_farOf_2 (by decide) ?_
  refine JJ_iload_n dX12_farOf_3 rfl rfl ?_
  refine JJ_iconst (v := 5) dX12_farOf_4 rfl ?_
  refine JJ_irem dX12_farOf_5 (by decide) ?_
  refine JJ_isub dX12_farOf_6 ?_
  refine JJ_callS (rest := []) (kr_plain (v := (a - a / 5 * 5) - (b - b / 5 * 5))) (by decide) mi_X12_plain lk_X12_246 rfl (Nat.le_of_ble_eq_true rfl) rfl rfl dX12_farOf_7 ?_
  intro v1 μ2 h3
  obtain ⟨rfl, rfl⟩ := h3
  refine JJ_r1 ?_
  refine JJ_istore_n (lv' := [(2, .int (s_abs ((a - a / 5 * 5) - (b - b / 5 * 5)))), (0, .int a), (1, .int b)]) dX12_farOf_10 rfl (by decide) rfl ?_
  refine JJ_iload_n dX12_farOf_11 rfl rfl ?_
  refine JJ_iconst (v := 5) dX12_farOf_12 rfl ?_
  refine JJ_idiv dX12_farOf_13 (by decide) ?_
  refine JJ_iload_n dX12_farOf_14 rfl rfl ?_
  refine JJ_iconst (v := 5) dX12_farOf_15 rfl ?_
  refine JJ_idiv dX12_farOf_16 (by decide) ?_
  refine JJ_isub dX12_farOf_17 ?_
  refine JJ_callS (rest := []) (kr_plain (v := (a / 5) - (b / 5))) (by decide) mi_X12_plain lk_X12_246 rfl (Nat.le_of_ble_eq_true rfl) rfl rfl dX12_farOf_18 ?_
  intro v4 μ5 h6
  obtain ⟨rfl, rfl⟩ := h6
  refine JJ_r1 ?_
  refine JJ_istore_n (lv' := [(3, .int (s_abs ((a / 5) - (b / 5)))), (2, .int (s_abs ((a - a / 5 * 5) - (b - b / 5 * 5)))), (0, .int a), (1, .int b)]) dX12_farOf_21 rfl (by decide) rfl ?_
  refine JJ_iload_n dX12_farOf_22 rfl rfl ?_
  refine JJ_iload_n dX12_farOf_23 rfl rfl ?_
  refine JJ_icmp_le (tgt := 31) dX12_farOf_24 (by decide) (fun c7 => ?_) (fun c7 => ?_)
  · skip
    refine JJ_iload_n dX12_farOf_31 rfl rfl ?_
    refine JJ_iret dX12_farOf_32 rfl ?_
    exact ans_i (by unfold s_far; first | exact (if_pos (by rw [i_lt]; simp only [i_le] at *; show (s_abs (a / 5 - b / 5)).toInt < (s_abs (a - a / 5 * 5 - (b - b / 5 * 5))).toInt; omega)).symm | exact (if_neg (by rw [i_lt]; simp only [i_le] at *; show ¬ (s_abs (a / 5 - b / 5)).toInt < (s_abs (a - a / 5 * 5 - (b - b / 5 * 5))).toInt; omega)).symm)
  · skip
    refine JJ_iload_n dX12_farOf_27 rfl rfl ?_
    refine JJ_goto (tgt := 32) dX12_farOf_28 (by decide) ?_
    refine JJ_iret dX12_farOf_32 rfl ?_
    exact ans_i (by unfold s_far; first | exact (if_pos (by rw [i_lt]; simp only [i_le] at *; show (s_abs (a / 5 - b / 5)).toInt < (s_abs (a - a / 5 * 5 - (b - b / 5 * 5))).toInt; omega)).symm | exact (if_neg (by rw [i_lt]; simp only [i_le] at *; show ¬ (s_abs (a / 5 - b / 5)).toInt < (s_abs (a - a / 5 * 5 - (b - b / 5 * 5))).toInt; omega)).symm)
set_option maxHeartbeats 4000000 in
set_option maxRecDepth 100000 in
theorem kr_across {c : Int32} : KK G sc yX12_across cX12_across 1 (some .int) 0 0 0 [.int c] (n, S, M, L, P) (ansI (s_across c) (n, S, M, L, P)) := by
  refine KK_of2 [(0, .int c)] (by decide +kernel) (Nat.le_of_ble_eq_true rfl) rfl ?_
  refine JJ_iload_n dX12_across_0 rfl rfl ?_
  refine JJ_iload_n dX12_across_1 rfl rfl ?_
  refine JJ_iconst (v := 5) dX12_across_2 rfl ?_
  refine JJ_irem dX12_across_3 (by decide) ?_
  refine JJ_isub dX12_across_4 ?_
  refine JJ_iconst (v := 4) dX12_across_5 rfl ?_
  refine JJ_iadd dX12_across_6 ?_
  refine JJ_iload_n dX12_across_7 rfl rfl ?_
  refine JJ_iconst (v := 5) dX12_across_8 rfl ?_
  refine JJ_irem dX12_across_9 (by decide) ?_
  refine JJ_isub dX12_across_10 ?_
  refine JJ_iret dX12_across_11 rfl ?_
  exact ans_i rfl
set_option maxHeartbeats 4000000 in
set_option maxRecDepth 100000 in
theorem kr_comes {k : Nat} {fr : Int32} (hk : k < 6) (hR : RWF o S P) (hN : HSR o sc) : KK G sc yX12_comesTo cX12_comesTo 5 (some .int) 1 0 0 [.ref o, .int (nI k), .int fr] (n, S, M, L, P) (ansI (s_comes (M (o + 8) k) (M (o + 10) k) fr) (n, S, M, L, P)) := by
  refine KK_of2 [(0, .ref o), (1, .int (nI k)), (2, .int fr)] (by decide +kernel) (Nat.le_of_ble_eq_true rfl) rfl ?_
  refine JJ_aload_n dX12_comesTo_0 rfl rfl ?_
  refine JJ_getr (q := o + 8) (cis := [12]) (k := 12) fa_X12_35 (by decide) hR.1 rfl (hR.2 (12, 8, 20, 6) (by decide)).1 dX12_comesTo_1 ?_
  refine JJ_iload_n dX12_comesTo_4 rfl rfl ?_
  refine JJ_ialdX (v := M (o + 8) k) (hR.2 (12, 8, 20, 6) (by decide)).2 (IX_nI (by omega) (by omega)) (hN.2.1 8 _ (by decide) (by decide)) rfl dX12_comesTo_5 ?_
  refine JJ_istore_n (lv' := [(3, .int (M (o + 8) k)), (0, .ref o), (1, .int (nI k)), (2, .int fr)]) dX12_comesTo_6 rfl (by decide) rfl ?_
  refine JJ_aload_n dX12_comesTo_7 rfl rfl ?_
  refine JJ_getr (q := o + 10) (cis := [12]) (k := 14) fa_X12_41 (by decide) hR.1 rfl (hR.2 (14, 10, 20, 6) (by decide)).1 dX12_comesTo_8 ?_
  refine JJ_iload_n dX12_comesTo_11 rfl rfl ?_
  refine JJ_ialdX (v := M (o + 10) k) (hR.2 (14, 10, 20, 6) (by decide)).2 (IX_nI (by omega) (by omega)) (hN.2.1 10 _ (by decide) (by decide)) rfl dX12_comesTo_12 ?_
  refine JJ_istore (lv' := [(4, .int (M (o + 10) k)), (3, .int (M (o + 8) k)), (0, .ref o), (1, .int (nI k)), (2, .int fr)]) dX12_comesTo_13 (by decide) rfl ?_
  refine JJ_iload_n dX12_comesTo_15 rfl rfl ?_
  refine JJ_iconst (v := 3) dX12_comesTo_16 rfl ?_
  refine JJ_icmp_ne (tgt := 37) dX12_comesTo_17 (by decide) (fun c1 => ?_) (fun c1 => ?_)
  · skip
    refine JJ_iload_n dX12_comesTo_37 rfl rfl ?_
    refine JJ_iconst (v := 4) dX12_comesTo_38 rfl ?_
    refine JJ_icmp_eq (tgt := 54) dX12_comesTo_39 (by decide) (fun c2 => ?_) (fun c2 => ?_)
    · skip
      refine JJ_iload dX12_comesTo_54 rfl ?_
      refine JJ_callS (rest := []) (kr_across (c := M (o + 10) k)) (by decide) mi_X12_across lk_X12_249 rfl (Nat.le_of_ble_eq_true rfl) rfl rfl dX12_comesTo_56 ?_
      intro v3 μ4 h5
      obtain ⟨rfl, rfl⟩ := h5
      refine JJ_r1 ?_
      refine JJ_goto (tgt := 64) dX12_comesTo_59 (by decide) ?_
      refine JJ_iret dX12_comesTo_64 rfl ?_
      exact ans_i (by unfold s_comes s_m5; simp only [*, if_true, if_false, true_or, or_true, true_and, and_true, and_false, false_or, or_false, and_self] <;> simp_all)
    · skip
      refine JJ_iload_n dX12_comesTo_42 rfl rfl ?_
      refine JJ_iconst (v := 5) dX12_comesTo_43 rfl ?_
      refine JJ_icmp_ne (tgt := 62) dX12_comesTo_44 (by decide) (fun c6 => ?_) (fun c6 => ?_)
      · skip
        refine JJ_iload dX12_comesTo_62 rfl ?_
        refine JJ_iret dX12_comesTo_64 rfl ?_
        exact ans_i (by unfold s_comes s_m5; simp only [*, if_true, if_false, true_or, or_true, true_and, and_true, and_false, false_or, or_false, and_self] <;> simp_all)
      · skip
        refine JJ_iload_n dX12_comesTo_47 rfl rfl ?_
        refine JJ_iconst (v := 5) dX12_comesTo_48 rfl ?_
        refine JJ_irem dX12_comesTo_49 (by decide) ?_
        refine JJ_iconst (v := 2) dX12_comesTo_50 rfl ?_
        refine JJ_icmp_ge (tgt := 62) dX12_comesTo_51 (by decide) (fun c7 => ?_) (fun c7 => ?_)
        · skip
          refine JJ_iload dX12_comesTo_62 rfl ?_
          refine JJ_iret dX12_comesTo_64 rfl ?_
          exact ans_i (by unfold s_comes s_m5; simp only [*, if_true, if_false, true_or, or_true, true_and, and_true, and_false, false_or, or_false, and_self] <;> simp_all)
        · skip
          refine JJ_iload dX12_comesTo_54 rfl ?_
          refine JJ_callS (rest := []) (kr_across (c := M (o + 10) k)) (by decide) mi_X12_across lk_X12_249 rfl (Nat.le_of_ble_eq_true rfl) rfl rfl dX12_comesTo_56 ?_
          intro v8 μ9 h10
          obtain ⟨rfl, rfl⟩ := h10
          refine JJ_r1 ?_
          refine JJ_goto (tgt := 64) dX12_comesTo_59 (by decide) ?_
          refine JJ_iret dX12_comesTo_64 rfl ?_
          exact ans_i (by unfold s_comes s_m5; simp only [*, if_true, if_false, true_or, or_true, true_and, and_true, and_false, false_or, or_false, and_self] <;> simp_all)
  · skip
    refine JJ_iload dX12_comesTo_20 rfl ?_
    refine JJ_bipush (v := 20) dX12_comesTo_22 rfl ?_
    refine JJ_icmp_ge (tgt := 34) dX12_comesTo_24 (by decide) (fun c11 => ?_) (fun c11 => ?_)
    · skip
      refine JJ_iload dX12_comesTo_34 rfl ?_
      refine JJ_iret dX12_comesTo_36 rfl ?_
      exact ans_i (by unfold s_comes s_m5; simp only [*, if_true, if_false, true_or, or_true, true_and, and_true, and_false, false_or, or_false, and_self] <;> simp_all)
    · skip
      refine JJ_iload dX12_comesTo_27 rfl ?_
      refine JJ_iconst (v := 5) dX12_comesTo_29 rfl ?_
      refine JJ_iadd dX12_comesTo_30 ?_
      refine JJ_goto (tgt := 36) dX12_comesTo_31 (by decide) ?_
      refine JJ_iret dX12_comesTo_36 rfl ?_
      exact ans_i (by unfold s_comes s_m5; simp only [*, if_true, if_false, true_or, or_true, true_and, and_true, and_false, false_or, or_false, and_self] <;> simp_all)
set_option maxHeartbeats 4000000 in
set_option maxRecDepth 100000 in
theorem kr_spends {k : Nat} (hk : k < 6) (hR : RWF o S P) (hN : HSR o sc) : KK G sc yX12_spendsOf cX12_spendsOf 3 (some .int) 0 0 0 [.ref o, .int (nI k)] (n, S, M, L, P) (ansI (s_spends (M (o + 8) k) (M (o + 9) k)) (n, S, M, L, P)) := by
  refine KK_of2 [(0, .ref o), (1, .int (nI k))] (by decide +kernel) (Nat.le_of_ble_eq_true rfl) rfl ?_
  refine JJ_aload_n dX12_spendsOf_0 rfl rfl ?_
  refine JJ_getr (q := o + 8) (cis := [12]) (k := 12) fa_X12_35 (by decide) hR.1 rfl (hR.2 (12, 8, 20, 6) (by decide)).1 dX12_spendsOf_1 ?_
  refine JJ_iload_n dX12_spendsOf_4 rfl rfl ?_
  refine JJ_ialdX (v := M (o + 8) k) (hR.2 (12, 8, 20, 6) (by decide)).2 (IX_nI (by omega) (by omega)) (hN.2.1 8 _ (by decide) (by decide)) rfl dX12_spendsOf_5 ?_
  refine JJ_istore_n (lv' := [(2, .int (M (o + 8) k)), (0, .ref o), (1, .int (nI k))]) dX12_spendsOf_6 rfl (by decide) rfl ?_
  refine JJ_iload_n dX12_spendsOf_7 rfl rfl ?_
  refine JJ_iconst (v := 3) dX12_spendsOf_8 rfl ?_
  refine JJ_icmp_ne (tgt := 16) dX12_spendsOf_9 (by decide) (fun c1 => ?_) (fun c1 => ?_)
  · skip
    refine JJ_iload_n dX12_spendsOf_16 rfl rfl ?_
    refine JJ_iconst (v := 5) dX12_spendsOf_17 rfl ?_
    refine JJ_icmp_ne (tgt := 25) dX12_spendsOf_18 (by decide) (fun c2 => ?_) (fun c2 => ?_)
    · skip
      refine JJ_iload_n dX12_spendsOf_25 rfl rfl ?_
      refine JJ_iconst (v := 2) dX12_spendsOf_26 rfl ?_
      refine JJ_icmp_eq (tgt := 35) dX12_spendsOf_27 (by decide) (fun c3 => ?_) (fun c3 => ?_)
      · skip
        refine JJ_iconst (v := 1) dX12_spendsOf_35 rfl ?_
        refine JJ_aload_n dX12_spendsOf_36 rfl rfl ?_
        refine JJ_getr (q := o + 9) (cis := [12]) (k := 13) fa_X12_38 (by decide) hR.1 rfl (hR.2 (13, 9, 20, 6) (by decide)).1 dX12_spendsOf_37 ?_
        refine JJ_iload_n dX12_spendsOf_40 rfl rfl ?_
        refine JJ_ialdX (v := M (o + 9) k) (hR.2 (13, 9, 20, 6) (by decide)).2 (IX_nI (by omega) (by omega)) (hN.2.1 9 _ (by decide) (by decide)) rfl dX12_spendsOf_41 ?_
        refine JJ_iconst (v := 2) dX12_spendsOf_42 rfl ?_
        refine JJ_idiv dX12_spendsOf_43 (by decide) ?_
        refine JJ_iadd dX12_spendsOf_44 ?_
        refine JJ_goto (tgt := 49) dX12_spendsOf_45 (by decide) ?_
        refine JJ_iret dX12_spendsOf_49 rfl ?_
        exact ans_i (by unfold s_spends; simp_all)
      · skip
        refine JJ_iload_n dX12_spendsOf_30 rfl rfl ?_
        refine JJ_iconst (v := 4) dX12_spendsOf_31 rfl ?_
        refine JJ_icmp_ne (tgt := 48) dX12_spendsOf_32 (by decide) (fun c4 => ?_) (fun c4 => ?_)
        · skip
          refine JJ_iconst (v := 1) dX12_spendsOf_48 rfl ?_
          refine JJ_iret dX12_spendsOf_49 rfl ?_
          exact ans_i (by unfold s_spends; simp_all)
        · skip
          refine JJ_iconst (v := 1) dX12_spendsOf_35 rfl ?_
          refine JJ_aload_n dX12_spendsOf_36 rfl rfl ?_
          refine JJ_getr (q := o + 9) (cis := [12]) (k := 13) fa_X12_38 (by decide) hR.1 rfl (hR.2 (13, 9, 20, 6) (by decide)).1 dX12_spendsOf_37 ?_
          refine JJ_iload_n dX12_spendsOf_40 rfl rfl ?_
          refine JJ_ialdX (v := M (o + 9) k) (hR.2 (13, 9, 20, 6) (by decide)).2 (IX_nI (by omega) (by omega)) (hN.2.1 9 _ (by decide) (by decide)) rfl dX12_spendsOf_41 ?_
          refine JJ_iconst (v := 2) dX12_spendsOf_42 rfl ?_
          refine JJ_idiv dX12_spendsOf_43 (by decide) ?_
          refine JJ_iadd dX12_spendsOf_44 ?_
          refine JJ_goto (tgt := 49) dX12_spendsOf_45 (by decide) ?_
          refine JJ_iret dX12_spendsOf_49 rfl ?_
          exact ans_i (by unfold s_spends; simp_all)
    · skip
      refine JJ_iconst (v := 3) dX12_spendsOf_21 rfl ?_
      refine JJ_goto (tgt := 49) dX12_spendsOf_22 (by decide) ?_
      refine JJ_iret dX12_spendsOf_49 rfl ?_
      exact ans_i (by unfold s_spends; simp_all)
  · skip
    refine JJ_iconst (v := 0) dX12_spendsOf_12 rfl ?_
    refine JJ_goto (tgt := 49) dX12_spendsOf_13 (by decide) ?_
    refine JJ_iret dX12_spendsOf_49 rfl ?_
    exact ans_i (by unfold s_spends; simp_all)
end REF1
