section C2
variable {G : Gx} {sc : Nat → Nat → Prop} {n : Nat} {S : Nat → Nat × Nat} {M : Nat → Nat → Int32} {L : Nat → Nat → Int64} {P : Nat → Nat → Option Nat} {x : Nat}

/-- the tenths of a stroke's flight, not yet held at 0 -/
def s_fl (kd nb w f : Int32) : Int32 := if kd = 0 then f else if kd = 2 then (if w < 20 then f / 2 else f) else if kd = 4 then (if w < 20 then f / 2 else f) + 3 else if kd = 3 then f + nb + 10 else if kd = 5 then f + nb - 2 else f + nb
theorem cm_e8 {am f : Int32} : s_comes 0 am f = (am) := (if_neg (by decide)).trans (if_neg (fun z => z.elim (by decide) (fun q => absurd q.1 (by decide))))
theorem fl_e8 {nb w f : Int32} : s_fl 0 nb w f = (f) := (if_pos rfl)
theorem sp_e8 {nb : Int32} : s_spends 0 nb = (1) := (if_neg (by decide)).trans ((if_neg (by decide)).trans (if_neg (by decide)))
theorem cm_e4 {am f : Int32} : s_comes 1 am f = (am) := (if_neg (by decide)).trans (if_neg (fun z => z.elim (by decide) (fun q => absurd q.1 (by decide))))
theorem fl_e4 {nb w f : Int32} : s_fl 1 nb w f = (f + nb) := (if_neg (by decide)).trans ((if_neg (by decide)).trans ((if_neg (by decide)).trans ((if_neg (by decide)).trans ((if_neg (by decide))))))
theorem sp_e4 {nb : Int32} : s_spends 1 nb = (1) := (if_neg (by decide)).trans ((if_neg (by decide)).trans (if_neg (by decide)))
theorem cm_e3 {am f : Int32} : s_comes 2 am f = (am) := (if_neg (by decide)).trans (if_neg (fun z => z.elim (by decide) (fun q => absurd q.1 (by decide))))
theorem fl_e3 {nb w f : Int32} : s_fl 2 nb w f = (if w < 20 then f / 2 else f) := (if_neg (by decide)).trans ((if_pos rfl))
theorem sp_e3 {nb : Int32} : s_spends 2 nb = (1 + nb / 2) := (if_neg (by decide)).trans ((if_neg (by decide)).trans (if_pos (Or.inl rfl)))
theorem cm_e5 {am f : Int32} : s_comes 3 am f = (if am < 20 then am + 5 else am) := if_pos rfl
theorem fl_e5 {nb w f : Int32} : s_fl 3 nb w f = (f + nb + 10) := (if_neg (by decide)).trans ((if_neg (by decide)).trans ((if_neg (by decide)).trans ((if_pos rfl))))
theorem sp_e5 {nb : Int32} : s_spends 3 nb = (0) := if_pos rfl
theorem cm_e0 {am f : Int32} : s_comes 4 am f = (s_across am) := (if_neg (by decide)).trans (if_pos (Or.inl rfl))
theorem fl_e0 {nb w f : Int32} : s_fl 4 nb w f = ((if w < 20 then f / 2 else f) + 3) := (if_neg (by decide)).trans ((if_neg (by decide)).trans ((if_pos rfl)))
theorem sp_e0 {nb : Int32} : s_spends 4 nb = (1 + nb / 2) := (if_neg (by decide)).trans ((if_neg (by decide)).trans (if_pos (Or.inr rfl)))
theorem cm_e2 {am f : Int32} : s_comes 5 am f = (if s_m5 f < 2 then s_across am else am) := by
  unfold s_comes
  rw [if_neg (by decide)]
  by_cases h : s_m5 f < 2
  · rw [if_pos h, if_pos (Or.inr ⟨rfl, Int32.not_le.mpr h⟩)]
  · rw [if_neg h, if_neg (fun z => z.elim (by decide) (fun q => q.2 (Int32.not_lt.mp h)))]
theorem fl_e2 {nb w f : Int32} : s_fl 5 nb w f = (f + nb - 2) := (if_neg (by decide)).trans ((if_neg (by decide)).trans ((if_neg (by decide)).trans ((if_neg (by decide)).trans ((if_pos rfl)))))
theorem sp_e2 {nb : Int32} : s_spends 5 nb = (1 + 2) := (if_neg (by decide)).trans (if_pos rfl)
set_option maxHeartbeats 4000000 in
set_option maxRecDepth 100000 in
theorem kc_Stroke_comes_8 {a : Nat} {f : Int32} (ha : (S a).1 = 8 + 1) (hsa : ∀ k, ¬ sc a k) : KK G sc yX8_comes cX8_comes 2 (some .int) 0 0 0 [.ref a, .int f] (n, S, M, L, P) (ansI (M a 1) (n, S, M, L, P)) := by
  refine KK_of2 [(0, .ref a), (1, .int f)] (by decide +kernel) (Nat.le_of_ble_eq_true rfl) rfl ?_
  refine JJ_aload_n dX8_comes_0 rfl rfl ?_
  refine JJ_geti (v := M a 1) (cis := [0, 2, 3, 4, 5, 8]) (k := 1) fa_X8_15 (by decide) ha rfl (hsa 1) rfl dX8_comes_1 ?_
  refine JJ_iret dX8_comes_4 rfl ?_
  exact ans_i rfl
set_option maxHeartbeats 4000000 in
set_option maxRecDepth 100000 in
theorem kc_Stroke_comes_4 {a : Nat} {f : Int32} (ha : (S a).1 = 4 + 1) (hsa : ∀ k, ¬ sc a k) : KK G sc yX8_comes cX8_comes 2 (some .int) 0 0 0 [.ref a, .int f] (n, S, M, L, P) (ansI (M a 1) (n, S, M, L, P)) := by
  refine KK_of2 [(0, .ref a), (1, .int f)] (by decide +kernel) (Nat.le_of_ble_eq_true rfl) rfl ?_
  refine JJ_aload_n dX8_comes_0 rfl rfl ?_
  refine JJ_geti (v := M a 1) (cis := [0, 2, 3, 4, 5, 8]) (k := 1) fa_X8_15 (by decide) ha rfl (hsa 1) rfl dX8_comes_1 ?_
  refine JJ_iret dX8_comes_4 rfl ?_
  exact ans_i rfl
set_option maxHeartbeats 4000000 in
set_option maxRecDepth 100000 in
theorem kc_Stroke_comes_3 {a : Nat} {f : Int32} (ha : (S a).1 = 3 + 1) (hsa : ∀ k, ¬ sc a k) : KK G sc yX8_comes cX8_comes 2 (some .int) 0 0 0 [.ref a, .int f] (n, S, M, L, P) (ansI (M a 1) (n, S, M, L, P)) := by
  refine KK_of2 [(0, .ref a), (1, .int f)] (by decide +kernel) (Nat.le_of_ble_eq_true rfl) rfl ?_
  refine JJ_aload_n dX8_comes_0 rfl rfl ?_
  refine JJ_geti (v := M a 1) (cis := [0, 2, 3, 4, 5, 8]) (k := 1) fa_X8_15 (by decide) ha rfl (hsa 1) rfl dX8_comes_1 ?_
  refine JJ_iret dX8_comes_4 rfl ?_
  exact ans_i rfl
set_option maxHeartbeats 4000000 in
set_option maxRecDepth 100000 in
theorem kc_Lob_comes_5 {a : Nat} {f : Int32} (ha : (S a).1 = 5 + 1) (hsa : ∀ k, ¬ sc a k) : KK G sc yX5_comes cX5_comes 2 (some .int) 0 0 0 [.ref a, .int f] (n, S, M, L, P) (ansI (if M a 1 < 20 then M a 1 + 5 else M a 1) (n, S, M, L, P)) := by
  refine KK_of2 [(0, .ref a), (1, .int f)] (by decide +kernel) (Nat.le_of_ble_eq_true rfl) rfl ?_
  refine JJ_aload_n dX5_comes_0 rfl rfl ?_
  refine JJ_geti (v := M a 1) (cis := [0, 2, 3, 4, 5, 8]) (k := 1) fa_X5_9 (by decide) ha rfl (hsa 1) rfl dX5_comes_1 ?_
  refine JJ_bipush (v := 20) dX5_comes_4 rfl ?_
  refine JJ_icmp_ge (tgt := 18) dX5_comes_6 (by decide) (fun c1 => ?_) (fun c1 => ?_)
  · skip
    refine JJ_aload_n dX5_comes_18 rfl rfl ?_
    refine JJ_geti (v := M a 1) (cis := [0, 2, 3, 4, 5, 8]) (k := 1) fa_X5_9 (by decide) ha rfl (hsa 1) rfl dX5_comes_19 ?_
    refine JJ_iret dX5_comes_22 rfl ?_
    exact ans_i (if_neg (Int32.not_lt.mpr c1)).symm
  · skip
    refine JJ_aload_n dX5_comes_9 rfl rfl ?_
    refine JJ_geti (v := M a 1) (cis := [0, 2, 3, 4, 5, 8]) (k := 1) fa_X5_9 (by decide) ha rfl (hsa 1) rfl dX5_comes_10 ?_
    refine JJ_iconst (v := 5) dX5_comes_13 rfl ?_
    refine JJ_iadd dX5_comes_14 ?_
    refine JJ_goto (tgt := 22) dX5_comes_15 (by decide) ?_
    refine JJ_iret dX5_comes_22 rfl ?_
    exact ans_i (if_pos (Int32.not_le.mp c1)).symm
set_option maxHeartbeats 4000000 in
set_option maxRecDepth 100000 in
theorem kc_Boast_comes_0 {a : Nat} {f : Int32} (ha : (S a).1 = 0 + 1) (hsa : ∀ k, ¬ sc a k) : KK G sc yX0_comes cX0_comes 2 (some .int) 1 0 0 [.ref a, .int f] (n, S, M, L, P) (ansI (s_across (M a 1)) (n, S, M, L, P)) := by
  refine KK_of2 [(0, .ref a), (1, .int f)] (by decide +kernel) (Nat.le_of_ble_eq_true rfl) rfl ?_
  refine JJ_aload_n dX0_comes_0 rfl rfl ?_
  refine JJ_geti (v := M a 1) (cis := [0, 2, 3, 4, 5, 8]) (k := 1) fa_X0_9 (by decide) ha rfl (hsa 1) rfl dX0_comes_1 ?_
  refine JJ_callSN (rest := []) (kc_across) (by omega) mi_X11_across lk_X0_15 rfl (Nat.le_of_ble_eq_true rfl) rfl rfl dX0_comes_4 ?_
  intro v1 μ2 h3
  obtain ⟨rfl, rfl⟩ := h3
  refine JJ_r1 ?_
  refine JJ_iret dX0_comes_7 rfl ?_
  exact ans_i rfl
set_option maxHeartbeats 4000000 in
set_option maxRecDepth 100000 in
theorem kc_Stroke_comes_2 {a : Nat} {f : Int32} (ha : (S a).1 = 2 + 1) (hsa : ∀ k, ¬ sc a k) : KK G sc yX8_comes cX8_comes 2 (some .int) 0 0 0 [.ref a, .int f] (n, S, M, L, P) (ansI (M a 1) (n, S, M, L, P)) := by
  refine KK_of2 [(0, .ref a), (1, .int f)] (by decide +kernel) (Nat.le_of_ble_eq_true rfl) rfl ?_
  refine JJ_aload_n dX8_comes_0 rfl rfl ?_
  refine JJ_geti (v := M a 1) (cis := [0, 2, 3, 4, 5, 8]) (k := 1) fa_X8_15 (by decide) ha rfl (hsa 1) rfl dX8_comes_1 ?_
  refine JJ_iret dX8_comes_4 rfl ?_
  exact ans_i rfl
set_option maxHeartbeats 4000000 in
set_option maxRecDepth 100000 in
theorem kc_Cross_comes_2 {a : Nat} {f : Int32} (ha : (S a).1 = 2 + 1) (hsa : ∀ k, ¬ sc a k) : KK G sc yX2_comes cX2_comes 3 (some .int) 1 0 0 [.ref a, .int f] (n, S, M, L, P) (ansI (if s_m5 f < 2 then s_across (M a 1) else M a 1) (n, S, M, L, P)) := by
  refine KK_of2 [(0, .ref a), (1, .int f)] (by decide +kernel) (Nat.le_of_ble_eq_true rfl) rfl ?_
  refine JJ_aload_n dX2_comes_0 rfl rfl ?_
  refine JJ_iload_n dX2_comes_1 rfl rfl ?_
  refine JJ_callSP (rest := []) ha rfl (kc_Stroke_comes_2 ha hsa) (by omega) mi_X8_comes lk_X2_9 rfl (Nat.le_of_ble_eq_true rfl) rfl rfl dX2_comes_2 ?_
  intro v1 μ2 h3
  obtain ⟨rfl, rfl⟩ := h3
  refine JJ_r1 ?_
  refine JJ_istore_n (lv' := [(2, .int (M a 1)), (0, .ref a), (1, .int f)]) dX2_comes_5 rfl (by decide) rfl ?_
  refine JJ_iload_n dX2_comes_6 rfl rfl ?_
  refine JJ_iconst (v := 5) dX2_comes_7 rfl ?_
  refine JJ_irem dX2_comes_8 (by decide) ?_
  refine JJ_iconst (v := 2) dX2_comes_9 rfl ?_
  refine JJ_icmp_ge (tgt := 20) dX2_comes_10 (by decide) (fun c4 => ?_) (fun c4 => ?_)
  · skip
    refine JJ_iload_n dX2_comes_20 rfl rfl ?_
    refine JJ_iret dX2_comes_21 rfl ?_
    exact ans_i (if_neg (Int32.not_lt.mpr c4)).symm
  · skip
    refine JJ_iload_n dX2_comes_13 rfl rfl ?_
    refine JJ_callSN (rest := []) (kc_across) (by omega) mi_X11_across lk_X2_13 rfl (Nat.le_of_ble_eq_true rfl) rfl rfl dX2_comes_14 ?_
    intro v5 μ6 h7
    obtain ⟨rfl, rfl⟩ := h7
    refine JJ_r1 ?_
    refine JJ_goto (tgt := 21) dX2_comes_17 (by decide) ?_
    refine JJ_iret dX2_comes_21 rfl ?_
    exact ans_i (if_pos (Int32.not_le.mp c4)).symm
set_option maxHeartbeats 4000000 in
set_option maxRecDepth 100000 in
theorem kc_Stroke_flight_8 {a : Nat} {f w : Int32} (ha : (S a).1 = 8 + 1) (hsa : ∀ k, ¬ sc a k) : KK G sc yX8_flight cX8_flight 3 (some .int) 0 0 0 [.ref a, .int f, .int w] (n, S, M, L, P) (ansI (f) (n, S, M, L, P)) := by
  refine KK_of2 [(0, .ref a), (1, .int f), (2, .int w)] (by decide +kernel) (Nat.le_of_ble_eq_true rfl) rfl ?_
  refine JJ_iload_n dX8_flight_0 rfl rfl ?_
  refine JJ_iret dX8_flight_1 rfl ?_
  exact ans_i rfl
set_option maxHeartbeats 4000000 in
set_option maxRecDepth 100000 in
theorem kc_Stroke_flight_4 {a : Nat} {f w : Int32} (ha : (S a).1 = 4 + 1) (hsa : ∀ k, ¬ sc a k) : KK G sc yX8_flight cX8_flight 3 (some .int) 0 0 0 [.ref a, .int f, .int w] (n, S, M, L, P) (ansI (f) (n, S, M, L, P)) := by
  refine KK_of2 [(0, .ref a), (1, .int f), (2, .int w)] (by decide +kernel) (Nat.le_of_ble_eq_true rfl) rfl ?_
  refine JJ_iload_n dX8_flight_0 rfl rfl ?_
  refine JJ_iret dX8_flight_1 rfl ?_
  exact ans_i rfl
set_option maxHeartbeats 4000000 in
set_option maxRecDepth 100000 in
theorem kc_Length_flight_4 {a : Nat} {f w : Int32} (ha : (S a).1 = 4 + 1) (hsa : ∀ k, ¬ sc a k) : KK G sc yX4_flight cX4_flight 3 (some .int) 1 0 0 [.ref a, .int f, .int w] (n, S, M, L, P) (ansI (f + M a 0) (n, S, M, L, P)) := by
  refine KK_of2 [(0, .ref a), (1, .int f), (2, .int w)] (by decide +kernel) (Nat.le_of_ble_eq_true rfl) rfl ?_
  refine JJ_aload_n dX4_flight_0 rfl rfl ?_
  refine JJ_iload_n dX4_flight_1 rfl rfl ?_
  refine JJ_iload_n dX4_flight_2 rfl rfl ?_
  refine JJ_callSU (rest := []) ha rfl (kc_Stroke_flight_4 ha hsa) (by omega) mi_X8_flight lk_X4_9 rfl (Nat.le_of_ble_eq_true rfl) rfl rfl dX4_flight_3 ?_
  intro v1 μ2 h3
  obtain ⟨rfl, rfl⟩ := h3
  refine JJ_r1 ?_
  refine JJ_aload_n dX4_flight_6 rfl rfl ?_
  refine JJ_geti (v := M a 0) (cis := [0, 2, 3, 4, 5, 8]) (k := 0) fa_X4_13 (by decide) ha rfl (hsa 0) rfl dX4_flight_7 ?_
  refine JJ_iadd dX4_flight_10 ?_
  refine JJ_iret dX4_flight_11 rfl ?_
  exact ans_i rfl
set_option maxHeartbeats 4000000 in
set_option maxRecDepth 100000 in
theorem kc_Stroke_flight_3 {a : Nat} {f w : Int32} (ha : (S a).1 = 3 + 1) (hsa : ∀ k, ¬ sc a k) : KK G sc yX8_flight cX8_flight 3 (some .int) 0 0 0 [.ref a, .int f, .int w] (n, S, M, L, P) (ansI (f) (n, S, M, L, P)) := by
  refine KK_of2 [(0, .ref a), (1, .int f), (2, .int w)] (by decide +kernel) (Nat.le_of_ble_eq_true rfl) rfl ?_
  refine JJ_iload_n dX8_flight_0 rfl rfl ?_
  refine JJ_iret dX8_flight_1 rfl ?_
  exact ans_i rfl
set_option maxHeartbeats 4000000 in
set_option maxRecDepth 100000 in
theorem kc_Drop_flight_3 {a : Nat} {f w : Int32} (ha : (S a).1 = 3 + 1) (hsa : ∀ k, ¬ sc a k) : KK G sc yX3_flight cX3_flight 4 (some .int) 1 0 0 [.ref a, .int f, .int w] (n, S, M, L, P) (ansI (if w < 20 then f / 2 else f) (n, S, M, L, P)) := by
  refine KK_of2 [(0, .ref a), (1, .int f), (2, .int w)] (by decide +kernel) (Nat.le_of_ble_eq_true rfl) rfl ?_
  refine JJ_aload_n dX3_flight_0 rfl rfl ?_
  refine JJ_iload_n dX3_flight_1 rfl rfl ?_
  refine JJ_iload_n dX3_flight_2 rfl rfl ?_
  refine JJ_callSU (rest := []) ha rfl (kc_Stroke_flight_3 ha hsa) (by omega) mi_X8_flight lk_X3_9 rfl (Nat.le_of_ble_eq_true rfl) rfl rfl dX3_flight_3 ?_
  intro v1 μ2 h3
  obtain ⟨rfl, rfl⟩ := h3
  refine JJ_r1 ?_
  refine JJ_istore_n (lv' := [(3, .int f), (0, .ref a), (1, .int f), (2, .int w)]) dX3_flight_6 rfl (by decide) rfl ?_
  refine JJ_iload_n dX3_flight_7 rfl rfl ?_
  refine JJ_bipush (v := 20) dX3_flight_8 rfl ?_
  refine JJ_icmp_ge (tgt := 19) dX3_flight_10 (by decide) (fun c4 => ?_) (fun c4 => ?_)
  · skip
    refine JJ_iload_n dX3_flight_19 rfl rfl ?_
    refine JJ_iret dX3_flight_20 rfl ?_
    exact ans_i (if_neg (Int32.not_lt.mpr c4)).symm
  · skip
    refine JJ_iload_n dX3_flight_13 rfl rfl ?_
    refine JJ_iconst (v := 2) dX3_flight_14 rfl ?_
    refine JJ_idiv dX3_flight_15 (by decide) ?_
    refine JJ_goto (tgt := 20) dX3_flight_16 (by decide) ?_
    refine JJ_iret dX3_flight_20 rfl ?_
    exact ans_i (if_pos (Int32.not_le.mp c4)).symm
set_option maxHeartbeats 4000000 in
set_option maxRecDepth 100000 in
theorem kc_Stroke_flight_5 {a : Nat} {f w : Int32} (ha : (S a).1 = 5 + 1) (hsa : ∀ k, ¬ sc a k) : KK G sc yX8_flight cX8_flight 3 (some .int) 0 0 0 [.ref a, .int f, .int w] (n, S, M, L, P) (ansI (f) (n, S, M, L, P)) := by
  refine KK_of2 [(0, .ref a), (1, .int f), (2, .int w)] (by decide +kernel) (Nat.le_of_ble_eq_true rfl) rfl ?_
  refine JJ_iload_n dX8_flight_0 rfl rfl ?_
  refine JJ_iret dX8_flight_1 rfl ?_
  exact ans_i rfl
set_option maxHeartbeats 4000000 in
set_option maxRecDepth 100000 in
theorem kc_Length_flight_5 {a : Nat} {f w : Int32} (ha : (S a).1 = 5 + 1) (hsa : ∀ k, ¬ sc a k) : KK G sc yX4_flight cX4_flight 3 (some .int) 1 0 0 [.ref a, .int f, .int w] (n, S, M, L, P) (ansI (f + M a 0) (n, S, M, L, P)) := by
  refine KK_of2 [(0, .ref a), (1, .int f), (2, .int w)] (by decide +kernel) (Nat.le_of_ble_eq_true rfl) rfl ?_
  refine JJ_aload_n dX4_flight_0 rfl rfl ?_
  refine JJ_iload_n dX4_flight_1 rfl rfl ?_
  refine JJ_iload_n dX4_flight_2 rfl rfl ?_
  refine JJ_callSU (rest := []) ha rfl (kc_Stroke_flight_5 ha hsa) (by omega) mi_X8_flight lk_X4_9 rfl (Nat.le_of_ble_eq_true rfl) rfl rfl dX4_flight_3 ?_
  intro v1 μ2 h3
  obtain ⟨rfl, rfl⟩ := h3
  refine JJ_r1 ?_
  refine JJ_aload_n dX4_flight_6 rfl rfl ?_
  refine JJ_geti (v := M a 0) (cis := [0, 2, 3, 4, 5, 8]) (k := 0) fa_X4_13 (by decide) ha rfl (hsa 0) rfl dX4_flight_7 ?_
  refine JJ_iadd dX4_flight_10 ?_
  refine JJ_iret dX4_flight_11 rfl ?_
  exact ans_i rfl
set_option maxHeartbeats 4000000 in
set_option maxRecDepth 100000 in
theorem kc_Lob_flight_5 {a : Nat} {f w : Int32} (ha : (S a).1 = 5 + 1) (hsa : ∀ k, ¬ sc a k) : KK G sc yX5_flight cX5_flight 3 (some .int) 2 0 0 [.ref a, .int f, .int w] (n, S, M, L, P) (ansI (f + M a 0 + 10) (n, S, M, L, P)) := by
  refine KK_of2 [(0, .ref a), (1, .int f), (2, .int w)] (by decide +kernel) (Nat.le_of_ble_eq_true rfl) rfl ?_
  refine JJ_aload_n dX5_flight_0 rfl rfl ?_
  refine JJ_iload_n dX5_flight_1 rfl rfl ?_
  refine JJ_iload_n dX5_flight_2 rfl rfl ?_
  refine JJ_callSU (rest := []) ha rfl (kc_Length_flight_5 ha hsa) (by omega) mi_X4_flight lk_X5_15 rfl (Nat.le_of_ble_eq_true rfl) rfl rfl dX5_flight_3 ?_
  intro v1 μ2 h3
  obtain ⟨rfl, rfl⟩ := h3
  refine JJ_r1 ?_
  refine JJ_bipush (v := 10) dX5_flight_6 rfl ?_
  refine JJ_iadd dX5_flight_8 ?_
  refine JJ_iret dX5_flight_9 rfl ?_
  exact ans_i rfl
set_option maxHeartbeats 4000000 in
set_option maxRecDepth 100000 in
theorem kc_Stroke_flight_0 {a : Nat} {f w : Int32} (ha : (S a).1 = 0 + 1) (hsa : ∀ k, ¬ sc a k) : KK G sc yX8_flight cX8_flight 3 (some .int) 0 0 0 [.ref a, .int f, .int w] (n, S, M, L, P) (ansI (f) (n, S, M, L, P)) := by
  refine KK_of2 [(0, .ref a), (1, .int f), (2, .int w)] (by decide +kernel) (Nat.le_of_ble_eq_true rfl) rfl ?_
  refine JJ_iload_n dX8_flight_0 rfl rfl ?_
  refine JJ_iret dX8_flight_1 rfl ?_
  exact ans_i rfl
set_option maxHeartbeats 4000000 in
set_option maxRecDepth 100000 in
theorem kc_Drop_flight_0 {a : Nat} {f w : Int32} (ha : (S a).1 = 0 + 1) (hsa : ∀ k, ¬ sc a k) : KK G sc yX3_flight cX3_flight 4 (some .int) 1 0 0 [.ref a, .int f, .int w] (n, S, M, L, P) (ansI (if w < 20 then f / 2 else f) (n, S, M, L, P)) := by
  refine KK_of2 [(0, .ref a), (1, .int f), (2, .int w)] (by decide +kernel) (Nat.le_of_ble_eq_true rfl) rfl ?_
  refine JJ_aload_n dX3_flight_0 rfl rfl ?_
  refine JJ_iload_n dX3_flight_1 rfl rfl ?_
  refine JJ_iload_n dX3_flight_2 rfl rfl ?_
  refine JJ_callSU (rest := []) ha rfl (kc_Stroke_flight_0 ha hsa) (by omega) mi_X8_flight lk_X3_9 rfl (Nat.le_of_ble_eq_true rfl) rfl rfl dX3_flight_3 ?_
  intro v1 μ2 h3
  obtain ⟨rfl, rfl⟩ := h3
  refine JJ_r1 ?_
  refine JJ_istore_n (lv' := [(3, .int f), (0, .ref a), (1, .int f), (2, .int w)]) dX3_flight_6 rfl (by decide) rfl ?_
  refine JJ_iload_n dX3_flight_7 rfl rfl ?_
  refine JJ_bipush (v := 20) dX3_flight_8 rfl ?_
  refine JJ_icmp_ge (tgt := 19) dX3_flight_10 (by decide) (fun c4 => ?_) (fun c4 => ?_)
  · skip
    refine JJ_iload_n dX3_flight_19 rfl rfl ?_
    refine JJ_iret dX3_flight_20 rfl ?_
    exact ans_i (if_neg (Int32.not_lt.mpr c4)).symm
  · skip
    refine JJ_iload_n dX3_flight_13 rfl rfl ?_
    refine JJ_iconst (v := 2) dX3_flight_14 rfl ?_
    refine JJ_idiv dX3_flight_15 (by decide) ?_
    refine JJ_goto (tgt := 20) dX3_flight_16 (by decide) ?_
    refine JJ_iret dX3_flight_20 rfl ?_
    exact ans_i (if_pos (Int32.not_le.mp c4)).symm
set_option maxHeartbeats 4000000 in
set_option maxRecDepth 100000 in
theorem kc_Boast_flight_0 {a : Nat} {f w : Int32} (ha : (S a).1 = 0 + 1) (hsa : ∀ k, ¬ sc a k) : KK G sc yX0_flight cX0_flight 3 (some .int) 2 0 0 [.ref a, .int f, .int w] (n, S, M, L, P) (ansI ((if w < 20 then f / 2 else f) + 3) (n, S, M, L, P)) := by
  refine KK_of2 [(0, .ref a), (1, .int f), (2, .int w)] (by decide +kernel) (Nat.le_of_ble_eq_true rfl) rfl ?_
  refine JJ_aload_n dX0_flight_0 rfl rfl ?_
  refine JJ_iload_n dX0_flight_1 rfl rfl ?_
  refine JJ_iload_n dX0_flight_2 rfl rfl ?_
  refine JJ_callSU (rest := []) ha rfl (kc_Drop_flight_0 ha hsa) (by omega) mi_X3_flight lk_X0_19 rfl (Nat.le_of_ble_eq_true rfl) rfl rfl dX0_flight_3 ?_
  intro v1 μ2 h3
  obtain ⟨rfl, rfl⟩ := h3
  refine JJ_r1 ?_
  refine JJ_iconst (v := 3) dX0_flight_6 rfl ?_
  refine JJ_iadd dX0_flight_7 ?_
  refine JJ_iret dX0_flight_8 rfl ?_
  exact ans_i rfl
set_option maxHeartbeats 4000000 in
set_option maxRecDepth 100000 in
theorem kc_Stroke_flight_2 {a : Nat} {f w : Int32} (ha : (S a).1 = 2 + 1) (hsa : ∀ k, ¬ sc a k) : KK G sc yX8_flight cX8_flight 3 (some .int) 0 0 0 [.ref a, .int f, .int w] (n, S, M, L, P) (ansI (f) (n, S, M, L, P)) := by
  refine KK_of2 [(0, .ref a), (1, .int f), (2, .int w)] (by decide +kernel) (Nat.le_of_ble_eq_true rfl) rfl ?_
  refine JJ_iload_n dX8_flight_0 rfl rfl ?_
  refine JJ_iret dX8_flight_1 rfl ?_
  exact ans_i rfl
set_option maxHeartbeats 4000000 in
set_option maxRecDepth 100000 in
theorem kc_Length_flight_2 {a : Nat} {f w : Int32} (ha : (S a).1 = 2 + 1) (hsa : ∀ k, ¬ sc a k) : KK G sc yX4_flight cX4_flight 3 (some .int) 1 0 0 [.ref a, .int f, .int w] (n, S, M, L, P) (ansI (f + M a 0) (n, S, M, L, P)) := by
  refine KK_of2 [(0, .ref a), (1, .int f), (2, .int w)] (by decide +kernel) (Nat.le_of_ble_eq_true rfl) rfl ?_
  refine JJ_aload_n dX4_flight_0 rfl rfl ?_
  refine JJ_iload_n dX4_flight_1 rfl rfl ?_
  refine JJ_iload_n dX4_flight_2 rfl rfl ?_
  refine JJ_callSU (rest := []) ha rfl (kc_Stroke_flight_2 ha hsa) (by omega) mi_X8_flight lk_X4_9 rfl (Nat.le_of_ble_eq_true rfl) rfl rfl dX4_flight_3 ?_
  intro v1 μ2 h3
  obtain ⟨rfl, rfl⟩ := h3
  refine JJ_r1 ?_
  refine JJ_aload_n dX4_flight_6 rfl rfl ?_
  refine JJ_geti (v := M a 0) (cis := [0, 2, 3, 4, 5, 8]) (k := 0) fa_X4_13 (by decide) ha rfl (hsa 0) rfl dX4_flight_7 ?_
  refine JJ_iadd dX4_flight_10 ?_
  refine JJ_iret dX4_flight_11 rfl ?_
  exact ans_i rfl
set_option maxHeartbeats 4000000 in
set_option maxRecDepth 100000 in
theorem kc_Cross_flight_2 {a : Nat} {f w : Int32} (ha : (S a).1 = 2 + 1) (hsa : ∀ k, ¬ sc a k) : KK G sc yX2_flight cX2_flight 3 (some .int) 2 0 0 [.ref a, .int f, .int w] (n, S, M, L, P) (ansI (f + M a 0 - 2) (n, S, M, L, P)) := by
  refine KK_of2 [(0, .ref a), (1, .int f), (2, .int w)] (by decide +kernel) (Nat.le_of_ble_eq_true rfl) rfl ?_
  refine JJ_aload_n dX2_flight_0 rfl rfl ?_
  refine JJ_iload_n dX2_flight_1 rfl rfl ?_
  refine JJ_iload_n dX2_flight_2 rfl rfl ?_
  refine JJ_callSU (rest := []) ha rfl (kc_Length_flight_2 ha hsa) (by omega) mi_X4_flight lk_X2_16 rfl (Nat.le_of_ble_eq_true rfl) rfl rfl dX2_flight_3 ?_
  intro v1 μ2 h3
  obtain ⟨rfl, rfl⟩ := h3
  refine JJ_r1 ?_
  refine JJ_iconst (v := 2) dX2_flight_6 rfl ?_
  refine JJ_isub dX2_flight_7 ?_
  refine JJ_iret dX2_flight_8 rfl ?_
  exact ans_i rfl
set_option maxHeartbeats 4000000 in
set_option maxRecDepth 100000 in
theorem kc_Stroke_spends_8 {a : Nat} (ha : (S a).1 = 8 + 1) (hsa : ∀ k, ¬ sc a k) : KK G sc yX8_spends cX8_spends 1 (some .int) 0 0 0 [.ref a] (n, S, M, L, P) (ansI (1) (n, S, M, L, P)) := by
  refine KK_of2 [(0, .ref a)] (by decide +kernel) (Nat.le_of_ble_eq_true rfl) rfl ?_
  refine JJ_iconst (v := 1) dX8_spends_0 rfl ?_
  refine JJ_iret dX8_spends_1 rfl ?_
  exact ans_i rfl
set_option maxHeartbeats 4000000 in
set_option maxRecDepth 100000 in
theorem kc_Stroke_spends_4 {a : Nat} (ha : (S a).1 = 4 + 1) (hsa : ∀ k, ¬ sc a k) : KK G sc yX8_spends cX8_spends 1 (some .int) 0 0 0 [.ref a] (n, S, M, L, P) (ansI (1) (n, S, M, L, P)) := by
  refine KK_of2 [(0, .ref a)] (by decide +kernel) (Nat.le_of_ble_eq_true rfl) rfl ?_
  refine JJ_iconst (v := 1) dX8_spends_0 rfl ?_
  refine JJ_iret dX8_spends_1 rfl ?_
  exact ans_i rfl
set_option maxHeartbeats 4000000 in
set_option maxRecDepth 100000 in
theorem kc_Stroke_spends_3 {a : Nat} (ha : (S a).1 = 3 + 1) (hsa : ∀ k, ¬ sc a k) : KK G sc yX8_spends cX8_spends 1 (some .int) 0 0 0 [.ref a] (n, S, M, L, P) (ansI (1) (n, S, M, L, P)) := by
  refine KK_of2 [(0, .ref a)] (by decide +kernel) (Nat.le_of_ble_eq_true rfl) rfl ?_
  refine JJ_iconst (v := 1) dX8_spends_0 rfl ?_
  refine JJ_iret dX8_spends_1 rfl ?_
  exact ans_i rfl
set_option maxHeartbeats 4000000 in
set_option maxRecDepth 100000 in
theorem kc_Drop_spends_3 {a : Nat} (ha : (S a).1 = 3 + 1) (hsa : ∀ k, ¬ sc a k) : KK G sc yX3_spends cX3_spends 1 (some .int) 1 0 0 [.ref a] (n, S, M, L, P) (ansI (1 + M a 0 / 2) (n, S, M, L, P)) := by
  refine KK_of2 [(0, .ref a)] (by decide +kernel) (Nat.le_of_ble_eq_true rfl) rfl ?_
  refine JJ_aload_n dX3_spends_0 rfl rfl ?_
  refine JJ_callSU (rest := []) ha rfl (kc_Stroke_spends_3 ha hsa) (by omega) mi_X8_spends lk_X3_13 rfl (Nat.le_of_ble_eq_true rfl) rfl rfl dX3_spends_1 ?_
  intro v1 μ2 h3
  obtain ⟨rfl, rfl⟩ := h3
  refine JJ_r1 ?_
  refine JJ_aload_n dX3_spends_4 rfl rfl ?_
  refine JJ_geti (v := M a 0) (cis := [0, 2, 3, 4, 5, 8]) (k := 0) fa_X3_17 (by decide) ha rfl (hsa 0) rfl dX3_spends_5 ?_
  refine JJ_iconst (v := 2) dX3_spends_8 rfl ?_
  refine JJ_idiv dX3_spends_9 (by decide) ?_
  refine JJ_iadd dX3_spends_10 ?_
  refine JJ_iret dX3_spends_11 rfl ?_
  exact ans_i rfl
set_option maxHeartbeats 4000000 in
set_option maxRecDepth 100000 in
theorem kc_Lob_spends_5 {a : Nat} (ha : (S a).1 = 5 + 1) (hsa : ∀ k, ¬ sc a k) : KK G sc yX5_spends cX5_spends 1 (some .int) 0 0 0 [.ref a] (n, S, M, L, P) (ansI (0) (n, S, M, L, P)) := by
  refine KK_of2 [(0, .ref a)] (by decide +kernel) (Nat.le_of_ble_eq_true rfl) rfl ?_
  refine JJ_iconst (v := 0) dX5_spends_0 rfl ?_
  refine JJ_iret dX5_spends_1 rfl ?_
  exact ans_i rfl
set_option maxHeartbeats 4000000 in
set_option maxRecDepth 100000 in
theorem kc_Stroke_spends_0 {a : Nat} (ha : (S a).1 = 0 + 1) (hsa : ∀ k, ¬ sc a k) : KK G sc yX8_spends cX8_spends 1 (some .int) 0 0 0 [.ref a] (n, S, M, L, P) (ansI (1) (n, S, M, L, P)) := by
  refine KK_of2 [(0, .ref a)] (by decide +kernel) (Nat.le_of_ble_eq_true rfl) rfl ?_
  refine JJ_iconst (v := 1) dX8_spends_0 rfl ?_
  refine JJ_iret dX8_spends_1 rfl ?_
  exact ans_i rfl
set_option maxHeartbeats 4000000 in
set_option maxRecDepth 100000 in
theorem kc_Drop_spends_0 {a : Nat} (ha : (S a).1 = 0 + 1) (hsa : ∀ k, ¬ sc a k) : KK G sc yX3_spends cX3_spends 1 (some .int) 1 0 0 [.ref a] (n, S, M, L, P) (ansI (1 + M a 0 / 2) (n, S, M, L, P)) := by
  refine KK_of2 [(0, .ref a)] (by decide +kernel) (Nat.le_of_ble_eq_true rfl) rfl ?_
  refine JJ_aload_n dX3_spends_0 rfl rfl ?_
  refine JJ_callSU (rest := []) ha rfl (kc_Stroke_spends_0 ha hsa) (by omega) mi_X8_spends lk_X3_13 rfl (Nat.le_of_ble_eq_true rfl) rfl rfl dX3_spends_1 ?_
  intro v1 μ2 h3
  obtain ⟨rfl, rfl⟩ := h3
  refine JJ_r1 ?_
  refine JJ_aload_n dX3_spends_4 rfl rfl ?_
  refine JJ_geti (v := M a 0) (cis := [0, 2, 3, 4, 5, 8]) (k := 0) fa_X3_17 (by decide) ha rfl (hsa 0) rfl dX3_spends_5 ?_
  refine JJ_iconst (v := 2) dX3_spends_8 rfl ?_
  refine JJ_idiv dX3_spends_9 (by decide) ?_
  refine JJ_iadd dX3_spends_10 ?_
  refine JJ_iret dX3_spends_11 rfl ?_
  exact ans_i rfl
set_option maxHeartbeats 4000000 in
set_option maxRecDepth 100000 in
theorem kc_Stroke_spends_2 {a : Nat} (ha : (S a).1 = 2 + 1) (hsa : ∀ k, ¬ sc a k) : KK G sc yX8_spends cX8_spends 1 (some .int) 0 0 0 [.ref a] (n, S, M, L, P) (ansI (1) (n, S, M, L, P)) := by
  refine KK_of2 [(0, .ref a)] (by decide +kernel) (Nat.le_of_ble_eq_true rfl) rfl ?_
  refine JJ_iconst (v := 1) dX8_spends_0 rfl ?_
  refine JJ_iret dX8_spends_1 rfl ?_
  exact ans_i rfl
set_option maxHeartbeats 4000000 in
set_option maxRecDepth 100000 in
theorem kc_Cross_spends_2 {a : Nat} (ha : (S a).1 = 2 + 1) (hsa : ∀ k, ¬ sc a k) : KK G sc yX2_spends cX2_spends 1 (some .int) 1 0 0 [.ref a] (n, S, M, L, P) (ansI (1 + 2) (n, S, M, L, P)) := by
  refine KK_of2 [(0, .ref a)] (by decide +kernel) (Nat.le_of_ble_eq_true rfl) rfl ?_
  refine JJ_aload_n dX2_spends_0 rfl rfl ?_
  refine JJ_callSP (rest := []) ha rfl (kc_Stroke_spends_2 ha hsa) (by omega) mi_X8_spends lk_X2_20 rfl (Nat.le_of_ble_eq_true rfl) rfl rfl dX2_spends_1 ?_
  intro v1 μ2 h3
  obtain ⟨rfl, rfl⟩ := h3
  refine JJ_r1 ?_
  refine JJ_iconst (v := 2) dX2_spends_4 rfl ?_
  refine JJ_iadd dX2_spends_5 ?_
  refine JJ_eqi (x2 := 3) (by decide) ?_
  refine JJ_iret dX2_spends_6 rfl ?_
  exact ans_i rfl
set_option maxHeartbeats 4000000 in
set_option maxRecDepth 100000 in
theorem kc_Stroke_kind_8 {a : Nat} (ha : (S a).1 = 8 + 1) (hsa : ∀ k, ¬ sc a k) : KK G sc yX8_kind cX8_kind 1 (some .int) 0 0 0 [.ref a] (n, S, M, L, P) (ansI (0) (n, S, M, L, P)) := by
  refine KK_of2 [(0, .ref a)] (by decide +kernel) (Nat.le_of_ble_eq_true rfl) rfl ?_
  refine JJ_iconst (v := 0) dX8_kind_0 rfl ?_
  refine JJ_iret dX8_kind_1 rfl ?_
  exact ans_i rfl
set_option maxHeartbeats 4000000 in
set_option maxRecDepth 100000 in
theorem kc_Length_kind_4 {a : Nat} (ha : (S a).1 = 4 + 1) (hsa : ∀ k, ¬ sc a k) : KK G sc yX4_kind cX4_kind 1 (some .int) 0 0 0 [.ref a] (n, S, M, L, P) (ansI (1) (n, S, M, L, P)) := by
  refine KK_of2 [(0, .ref a)] (by decide +kernel) (Nat.le_of_ble_eq_true rfl) rfl ?_
  refine JJ_iconst (v := 1) dX4_kind_0 rfl ?_
  refine JJ_iret dX4_kind_1 rfl ?_
  exact ans_i rfl
set_option maxHeartbeats 4000000 in
set_option maxRecDepth 100000 in
theorem kc_Drop_kind_3 {a : Nat} (ha : (S a).1 = 3 + 1) (hsa : ∀ k, ¬ sc a k) : KK G sc yX3_kind cX3_kind 1 (some .int) 0 0 0 [.ref a] (n, S, M, L, P) (ansI (2) (n, S, M, L, P)) := by
  refine KK_of2 [(0, .ref a)] (by decide +kernel) (Nat.le_of_ble_eq_true rfl) rfl ?_
  refine JJ_iconst (v := 2) dX3_kind_0 rfl ?_
  refine JJ_iret dX3_kind_1 rfl ?_
  exact ans_i rfl
set_option maxHeartbeats 4000000 in
set_option maxRecDepth 100000 in
theorem kc_Lob_kind_5 {a : Nat} (ha : (S a).1 = 5 + 1) (hsa : ∀ k, ¬ sc a k) : KK G sc yX5_kind cX5_kind 1 (some .int) 0 0 0 [.ref a] (n, S, M, L, P) (ansI (3) (n, S, M, L, P)) := by
  refine KK_of2 [(0, .ref a)] (by decide +kernel) (Nat.le_of_ble_eq_true rfl) rfl ?_
  refine JJ_iconst (v := 3) dX5_kind_0 rfl ?_
  refine JJ_iret dX5_kind_1 rfl ?_
  exact ans_i rfl
set_option maxHeartbeats 4000000 in
set_option maxRecDepth 100000 in
theorem kc_Boast_kind_0 {a : Nat} (ha : (S a).1 = 0 + 1) (hsa : ∀ k, ¬ sc a k) : KK G sc yX0_kind cX0_kind 1 (some .int) 0 0 0 [.ref a] (n, S, M, L, P) (ansI (4) (n, S, M, L, P)) := by
  refine KK_of2 [(0, .ref a)] (by decide +kernel) (Nat.le_of_ble_eq_true rfl) rfl ?_
  refine JJ_iconst (v := 4) dX0_kind_0 rfl ?_
  refine JJ_iret dX0_kind_1 rfl ?_
  exact ans_i rfl
set_option maxHeartbeats 4000000 in
set_option maxRecDepth 100000 in
theorem kc_Cross_kind_2 {a : Nat} (ha : (S a).1 = 2 + 1) (hsa : ∀ k, ¬ sc a k) : KK G sc yX2_kind cX2_kind 1 (some .int) 0 0 0 [.ref a] (n, S, M, L, P) (ansI (5) (n, S, M, L, P)) := by
  refine KK_of2 [(0, .ref a)] (by decide +kernel) (Nat.le_of_ble_eq_true rfl) rfl ?_
  refine JJ_iconst (v := 5) dX2_kind_0 rfl ?_
  refine JJ_iret dX2_kind_1 rfl ?_
  exact ans_i rfl
end C2
section CU
variable {G : Gx} {sc : Nat → Nat → Prop} {y : MethodName} {cc : ByteArray} {nL : Nat} {ret : Option FieldType} {d kc ks : Nat} {Φ : Option Value → Mem → Prop} {pc : Nat} {lv : List (Nat × Value)} {rest : List Value}
variable {n : Nat} {S : Nat → Nat × Nat} {M : Nat → Nat → Int32} {L : Nat → Nat → Int64} {P : Nat → Nat → Option Nat} {a : Nat} {kd nb am f w : Int32}
theorem ju_X1_49 (hst : STK S M a kd nb am) (hy : y.cls = RX1) (hsa : ∀ k, ¬ sc a k) (hd : 2 < d) (hrest : (rest.map fun v => v.category).sum ≤ 8) (hdg : decode cc pc = .ok (.invokevirtual 49, 3)) (kk : JJ G sc y cc nL ret d kc ks Φ (pc + 3) lv (.int (s_comes kd am f) :: rest) (n, S, M, L, P)) : JJ G sc y cc nL ret d kc ks Φ pc lv (.int f :: .ref a :: rest) (n, S, M, L, P) := by
  obtain ⟨ci, hci, hs, rfl, rfl, rfl⟩ := hst
  rcases hci with rfl | rfl | rfl | rfl | rfl | rfl
  · refine JJ_callU (rest := rest) hs (rfl : vwCl[0]? = some (RX0, TX0, 2)) (kc_Boast_comes_0 hs hsa) (by omega) mi_X0_comes (by rw [hy]; exact lk_X1_49_0) rfl hrest rfl rfl hdg ?_
    intro v μ h
    obtain ⟨rfl, rfl⟩ := h
    refine JJ_r1 ?_
    rw [show s_kd 0 = 4 from rfl, cm_e0] at kk
    exact kk
  · refine JJ_callU (rest := rest) hs (rfl : vwCl[2]? = some (RX2, TX2, 2)) (kc_Cross_comes_2 hs hsa) (by omega) mi_X2_comes (by rw [hy]; exact lk_X1_49_2) rfl hrest rfl rfl hdg ?_
    intro v μ h
    obtain ⟨rfl, rfl⟩ := h
    refine JJ_r1 ?_
    rw [show s_kd 2 = 5 from rfl, cm_e2] at kk
    exact kk
  · refine JJ_callU (rest := rest) hs (rfl : vwCl[3]? = some (RX3, TX3, 2)) (kc_Stroke_comes_3 hs hsa) (by omega) mi_X8_comes (by rw [hy]; exact lk_X1_49_3) rfl hrest rfl rfl hdg ?_
    intro v μ h
    obtain ⟨rfl, rfl⟩ := h
    refine JJ_r1 ?_
    rw [show s_kd 3 = 2 from rfl, cm_e3] at kk
    exact kk
  · refine JJ_callU (rest := rest) hs (rfl : vwCl[4]? = some (RX4, TX4, 2)) (kc_Stroke_comes_4 hs hsa) (by omega) mi_X8_comes (by rw [hy]; exact lk_X1_49_4) rfl hrest rfl rfl hdg ?_
    intro v μ h
    obtain ⟨rfl, rfl⟩ := h
    refine JJ_r1 ?_
    rw [show s_kd 4 = 1 from rfl, cm_e4] at kk
    exact kk
  · refine JJ_callU (rest := rest) hs (rfl : vwCl[5]? = some (RX5, TX5, 2)) (kc_Lob_comes_5 hs hsa) (by omega) mi_X5_comes (by rw [hy]; exact lk_X1_49_5) rfl hrest rfl rfl hdg ?_
    intro v μ h
    obtain ⟨rfl, rfl⟩ := h
    refine JJ_r1 ?_
    rw [show s_kd 5 = 3 from rfl, cm_e5] at kk
    exact kk
  · refine JJ_callU (rest := rest) hs (rfl : vwCl[8]? = some (RX8, TX8, 2)) (kc_Stroke_comes_8 hs hsa) (by omega) mi_X8_comes (by rw [hy]; exact lk_X1_49_8) rfl hrest rfl rfl hdg ?_
    intro v μ h
    obtain ⟨rfl, rfl⟩ := h
    refine JJ_r1 ?_
    rw [show s_kd 8 = 0 from rfl, cm_e8] at kk
    exact kk
theorem ju_X11_153 (hst : STK S M a kd nb am) (hy : y.cls = RX11) (hsa : ∀ k, ¬ sc a k) (hd : 2 < d) (hrest : (rest.map fun v => v.category).sum ≤ 8) (hdg : decode cc pc = .ok (.invokevirtual 153, 3)) (kk : JJ G sc y cc nL ret d kc ks Φ (pc + 3) lv (.int (s_comes kd am f) :: rest) (n, S, M, L, P)) : JJ G sc y cc nL ret d kc ks Φ pc lv (.int f :: .ref a :: rest) (n, S, M, L, P) := by
  obtain ⟨ci, hci, hs, rfl, rfl, rfl⟩ := hst
  rcases hci with rfl | rfl | rfl | rfl | rfl | rfl
  · refine JJ_callU (rest := rest) hs (rfl : vwCl[0]? = some (RX0, TX0, 2)) (kc_Boast_comes_0 hs hsa) (by omega) mi_X0_comes (by rw [hy]; exact lk_X11_153_0) rfl hrest rfl rfl hdg ?_
    intro v μ h
    obtain ⟨rfl, rfl⟩ := h
    refine JJ_r1 ?_
    rw [show s_kd 0 = 4 from rfl, cm_e0] at kk
    exact kk
  · refine JJ_callU (rest := rest) hs (rfl : vwCl[2]? = some (RX2, TX2, 2)) (kc_Cross_comes_2 hs hsa) (by omega) mi_X2_comes (by rw [hy]; exact lk_X11_153_2) rfl hrest rfl rfl hdg ?_
    intro v μ h
    obtain ⟨rfl, rfl⟩ := h
    refine JJ_r1 ?_
    rw [show s_kd 2 = 5 from rfl, cm_e2] at kk
    exact kk
  · refine JJ_callU (rest := rest) hs (rfl : vwCl[3]? = some (RX3, TX3, 2)) (kc_Stroke_comes_3 hs hsa) (by omega) mi_X8_comes (by rw [hy]; exact lk_X11_153_3) rfl hrest rfl rfl hdg ?_
    intro v μ h
    obtain ⟨rfl, rfl⟩ := h
    refine JJ_r1 ?_
    rw [show s_kd 3 = 2 from rfl, cm_e3] at kk
    exact kk
  · refine JJ_callU (rest := rest) hs (rfl : vwCl[4]? = some (RX4, TX4, 2)) (kc_Stroke_comes_4 hs hsa) (by omega) mi_X8_comes (by rw [hy]; exact lk_X11_153_4) rfl hrest rfl rfl hdg ?_
    intro v μ h
    obtain ⟨rfl, rfl⟩ := h
    refine JJ_r1 ?_
    rw [show s_kd 4 = 1 from rfl, cm_e4] at kk
    exact kk
  · refine JJ_callU (rest := rest) hs (rfl : vwCl[5]? = some (RX5, TX5, 2)) (kc_Lob_comes_5 hs hsa) (by omega) mi_X5_comes (by rw [hy]; exact lk_X11_153_5) rfl hrest rfl rfl hdg ?_
    intro v μ h
    obtain ⟨rfl, rfl⟩ := h
    refine JJ_r1 ?_
    rw [show s_kd 5 = 3 from rfl, cm_e5] at kk
    exact kk
  · refine JJ_callU (rest := rest) hs (rfl : vwCl[8]? = some (RX8, TX8, 2)) (kc_Stroke_comes_8 hs hsa) (by omega) mi_X8_comes (by rw [hy]; exact lk_X11_153_8) rfl hrest rfl rfl hdg ?_
    intro v μ h
    obtain ⟨rfl, rfl⟩ := h
    refine JJ_r1 ?_
    rw [show s_kd 8 = 0 from rfl, cm_e8] at kk
    exact kk
theorem ju_X1_58 (hst : STK S M a kd nb am) (hy : y.cls = RX1) (hsa : ∀ k, ¬ sc a k) (hd : 2 < d) (hrest : (rest.map fun v => v.category).sum ≤ 8) (hdg : decode cc pc = .ok (.invokevirtual 58, 3)) (kk : JJ G sc y cc nL ret d kc ks Φ (pc + 3) lv (.int (s_fl kd nb w f) :: rest) (n, S, M, L, P)) : JJ G sc y cc nL ret d kc ks Φ pc lv (.int w :: .int f :: .ref a :: rest) (n, S, M, L, P) := by
  obtain ⟨ci, hci, hs, rfl, rfl, rfl⟩ := hst
  rcases hci with rfl | rfl | rfl | rfl | rfl | rfl
  · refine JJ_callU (rest := rest) hs (rfl : vwCl[0]? = some (RX0, TX0, 2)) (kc_Boast_flight_0 hs hsa) (by omega) mi_X0_flight (by rw [hy]; exact lk_X1_58_0) rfl hrest rfl rfl hdg ?_
    intro v μ h
    obtain ⟨rfl, rfl⟩ := h
    refine JJ_r1 ?_
    rw [show s_kd 0 = 4 from rfl, fl_e0] at kk
    exact kk
  · refine JJ_callU (rest := rest) hs (rfl : vwCl[2]? = some (RX2, TX2, 2)) (kc_Cross_flight_2 hs hsa) (by omega) mi_X2_flight (by rw [hy]; exact lk_X1_58_2) rfl hrest rfl rfl hdg ?_
    intro v μ h
    obtain ⟨rfl, rfl⟩ := h
    refine JJ_r1 ?_
    rw [show s_kd 2 = 5 from rfl, fl_e2] at kk
    exact kk
  · refine JJ_callU (rest := rest) hs (rfl : vwCl[3]? = some (RX3, TX3, 2)) (kc_Drop_flight_3 hs hsa) (by omega) mi_X3_flight (by rw [hy]; exact lk_X1_58_3) rfl hrest rfl rfl hdg ?_
    intro v μ h
    obtain ⟨rfl, rfl⟩ := h
    refine JJ_r1 ?_
    rw [show s_kd 3 = 2 from rfl, fl_e3] at kk
    exact kk
  · refine JJ_callU (rest := rest) hs (rfl : vwCl[4]? = some (RX4, TX4, 2)) (kc_Length_flight_4 hs hsa) (by omega) mi_X4_flight (by rw [hy]; exact lk_X1_58_4) rfl hrest rfl rfl hdg ?_
    intro v μ h
    obtain ⟨rfl, rfl⟩ := h
    refine JJ_r1 ?_
    rw [show s_kd 4 = 1 from rfl, fl_e4] at kk
    exact kk
  · refine JJ_callU (rest := rest) hs (rfl : vwCl[5]? = some (RX5, TX5, 2)) (kc_Lob_flight_5 hs hsa) (by omega) mi_X5_flight (by rw [hy]; exact lk_X1_58_5) rfl hrest rfl rfl hdg ?_
    intro v μ h
    obtain ⟨rfl, rfl⟩ := h
    refine JJ_r1 ?_
    rw [show s_kd 5 = 3 from rfl, fl_e5] at kk
    exact kk
  · refine JJ_callU (rest := rest) hs (rfl : vwCl[8]? = some (RX8, TX8, 2)) (kc_Stroke_flight_8 hs hsa) (by omega) mi_X8_flight (by rw [hy]; exact lk_X1_58_8) rfl hrest rfl rfl hdg ?_
    intro v μ h
    obtain ⟨rfl, rfl⟩ := h
    refine JJ_r1 ?_
    rw [show s_kd 8 = 0 from rfl, fl_e8] at kk
    exact kk
theorem ju_X1_78 (hst : STK S M a kd nb am) (hy : y.cls = RX1) (hsa : ∀ k, ¬ sc a k) (hd : 2 < d) (hrest : (rest.map fun v => v.category).sum ≤ 8) (hdg : decode cc pc = .ok (.invokevirtual 78, 3)) (kk : JJ G sc y cc nL ret d kc ks Φ (pc + 3) lv (.int (s_spends kd nb) :: rest) (n, S, M, L, P)) : JJ G sc y cc nL ret d kc ks Φ pc lv (.ref a :: rest) (n, S, M, L, P) := by
  obtain ⟨ci, hci, hs, rfl, rfl, rfl⟩ := hst
  rcases hci with rfl | rfl | rfl | rfl | rfl | rfl
  · refine JJ_callU (rest := rest) hs (rfl : vwCl[0]? = some (RX0, TX0, 2)) (kc_Drop_spends_0 hs hsa) (by omega) mi_X3_spends (by rw [hy]; exact lk_X1_78_0) rfl hrest rfl rfl hdg ?_
    intro v μ h
    obtain ⟨rfl, rfl⟩ := h
    refine JJ_r1 ?_
    rw [show s_kd 0 = 4 from rfl, sp_e0] at kk
    exact kk
  · refine JJ_callU (rest := rest) hs (rfl : vwCl[2]? = some (RX2, TX2, 2)) (kc_Cross_spends_2 hs hsa) (by omega) mi_X2_spends (by rw [hy]; exact lk_X1_78_2) rfl hrest rfl rfl hdg ?_
    intro v μ h
    obtain ⟨rfl, rfl⟩ := h
    refine JJ_r1 ?_
    rw [show s_kd 2 = 5 from rfl, sp_e2] at kk
    exact kk
  · refine JJ_callU (rest := rest) hs (rfl : vwCl[3]? = some (RX3, TX3, 2)) (kc_Drop_spends_3 hs hsa) (by omega) mi_X3_spends (by rw [hy]; exact lk_X1_78_3) rfl hrest rfl rfl hdg ?_
    intro v μ h
    obtain ⟨rfl, rfl⟩ := h
    refine JJ_r1 ?_
    rw [show s_kd 3 = 2 from rfl, sp_e3] at kk
    exact kk
  · refine JJ_callU (rest := rest) hs (rfl : vwCl[4]? = some (RX4, TX4, 2)) (kc_Stroke_spends_4 hs hsa) (by omega) mi_X8_spends (by rw [hy]; exact lk_X1_78_4) rfl hrest rfl rfl hdg ?_
    intro v μ h
    obtain ⟨rfl, rfl⟩ := h
    refine JJ_r1 ?_
    rw [show s_kd 4 = 1 from rfl, sp_e4] at kk
    exact kk
  · refine JJ_callU (rest := rest) hs (rfl : vwCl[5]? = some (RX5, TX5, 2)) (kc_Lob_spends_5 hs hsa) (by omega) mi_X5_spends (by rw [hy]; exact lk_X1_78_5) rfl hrest rfl rfl hdg ?_
    intro v μ h
    obtain ⟨rfl, rfl⟩ := h
    refine JJ_r1 ?_
    rw [show s_kd 5 = 3 from rfl, sp_e5] at kk
    exact kk
  · refine JJ_callU (rest := rest) hs (rfl : vwCl[8]? = some (RX8, TX8, 2)) (kc_Stroke_spends_8 hs hsa) (by omega) mi_X8_spends (by rw [hy]; exact lk_X1_78_8) rfl hrest rfl rfl hdg ?_
    intro v μ h
    obtain ⟨rfl, rfl⟩ := h
    refine JJ_r1 ?_
    rw [show s_kd 8 = 0 from rfl, sp_e8] at kk
    exact kk
theorem ju_X11_163 (hst : STK S M a kd nb am) (hy : y.cls = RX11) (hsa : ∀ k, ¬ sc a k) (hd : 2 < d) (hrest : (rest.map fun v => v.category).sum ≤ 8) (hdg : decode cc pc = .ok (.invokevirtual 163, 3)) (kk : JJ G sc y cc nL ret d kc ks Φ (pc + 3) lv (.int (s_spends kd nb) :: rest) (n, S, M, L, P)) : JJ G sc y cc nL ret d kc ks Φ pc lv (.ref a :: rest) (n, S, M, L, P) := by
  obtain ⟨ci, hci, hs, rfl, rfl, rfl⟩ := hst
  rcases hci with rfl | rfl | rfl | rfl | rfl | rfl
  · refine JJ_callU (rest := rest) hs (rfl : vwCl[0]? = some (RX0, TX0, 2)) (kc_Drop_spends_0 hs hsa) (by omega) mi_X3_spends (by rw [hy]; exact lk_X11_163_0) rfl hrest rfl rfl hdg ?_
    intro v μ h
    obtain ⟨rfl, rfl⟩ := h
    refine JJ_r1 ?_
    rw [show s_kd 0 = 4 from rfl, sp_e0] at kk
    exact kk
  · refine JJ_callU (rest := rest) hs (rfl : vwCl[2]? = some (RX2, TX2, 2)) (kc_Cross_spends_2 hs hsa) (by omega) mi_X2_spends (by rw [hy]; exact lk_X11_163_2) rfl hrest rfl rfl hdg ?_
    intro v μ h
    obtain ⟨rfl, rfl⟩ := h
    refine JJ_r1 ?_
    rw [show s_kd 2 = 5 from rfl, sp_e2] at kk
    exact kk
  · refine JJ_callU (rest := rest) hs (rfl : vwCl[3]? = some (RX3, TX3, 2)) (kc_Drop_spends_3 hs hsa) (by omega) mi_X3_spends (by rw [hy]; exact lk_X11_163_3) rfl hrest rfl rfl hdg ?_
    intro v μ h
    obtain ⟨rfl, rfl⟩ := h
    refine JJ_r1 ?_
    rw [show s_kd 3 = 2 from rfl, sp_e3] at kk
    exact kk
  · refine JJ_callU (rest := rest) hs (rfl : vwCl[4]? = some (RX4, TX4, 2)) (kc_Stroke_spends_4 hs hsa) (by omega) mi_X8_spends (by rw [hy]; exact lk_X11_163_4) rfl hrest rfl rfl hdg ?_
    intro v μ h
    obtain ⟨rfl, rfl⟩ := h
    refine JJ_r1 ?_
    rw [show s_kd 4 = 1 from rfl, sp_e4] at kk
    exact kk
  · refine JJ_callU (rest := rest) hs (rfl : vwCl[5]? = some (RX5, TX5, 2)) (kc_Lob_spends_5 hs hsa) (by omega) mi_X5_spends (by rw [hy]; exact lk_X11_163_5) rfl hrest rfl rfl hdg ?_
    intro v μ h
    obtain ⟨rfl, rfl⟩ := h
    refine JJ_r1 ?_
    rw [show s_kd 5 = 3 from rfl, sp_e5] at kk
    exact kk
  · refine JJ_callU (rest := rest) hs (rfl : vwCl[8]? = some (RX8, TX8, 2)) (kc_Stroke_spends_8 hs hsa) (by omega) mi_X8_spends (by rw [hy]; exact lk_X11_163_8) rfl hrest rfl rfl hdg ?_
    intro v μ h
    obtain ⟨rfl, rfl⟩ := h
    refine JJ_r1 ?_
    rw [show s_kd 8 = 0 from rfl, sp_e8] at kk
    exact kk
theorem ju_X11_145 (hst : STK S M a kd nb am) (hy : y.cls = RX11) (hsa : ∀ k, ¬ sc a k) (hd : 2 < d) (hrest : (rest.map fun v => v.category).sum ≤ 8) (hdg : decode cc pc = .ok (.invokevirtual 145, 3)) (kk : JJ G sc y cc nL ret d kc ks Φ (pc + 3) lv (.int (kd) :: rest) (n, S, M, L, P)) : JJ G sc y cc nL ret d kc ks Φ pc lv (.ref a :: rest) (n, S, M, L, P) := by
  obtain ⟨ci, hci, hs, rfl, rfl, rfl⟩ := hst
  rcases hci with rfl | rfl | rfl | rfl | rfl | rfl
  · refine JJ_callU (rest := rest) hs (rfl : vwCl[0]? = some (RX0, TX0, 2)) (kc_Boast_kind_0 hs hsa) (by omega) mi_X0_kind (by rw [hy]; exact lk_X11_145_0) rfl hrest rfl rfl hdg ?_
    intro v μ h
    obtain ⟨rfl, rfl⟩ := h
    refine JJ_r1 ?_
    exact kk
  · refine JJ_callU (rest := rest) hs (rfl : vwCl[2]? = some (RX2, TX2, 2)) (kc_Cross_kind_2 hs hsa) (by omega) mi_X2_kind (by rw [hy]; exact lk_X11_145_2) rfl hrest rfl rfl hdg ?_
    intro v μ h
    obtain ⟨rfl, rfl⟩ := h
    refine JJ_r1 ?_
    exact kk
  · refine JJ_callU (rest := rest) hs (rfl : vwCl[3]? = some (RX3, TX3, 2)) (kc_Drop_kind_3 hs hsa) (by omega) mi_X3_kind (by rw [hy]; exact lk_X11_145_3) rfl hrest rfl rfl hdg ?_
    intro v μ h
    obtain ⟨rfl, rfl⟩ := h
    refine JJ_r1 ?_
    exact kk
  · refine JJ_callU (rest := rest) hs (rfl : vwCl[4]? = some (RX4, TX4, 2)) (kc_Length_kind_4 hs hsa) (by omega) mi_X4_kind (by rw [hy]; exact lk_X11_145_4) rfl hrest rfl rfl hdg ?_
    intro v μ h
    obtain ⟨rfl, rfl⟩ := h
    refine JJ_r1 ?_
    exact kk
  · refine JJ_callU (rest := rest) hs (rfl : vwCl[5]? = some (RX5, TX5, 2)) (kc_Lob_kind_5 hs hsa) (by omega) mi_X5_kind (by rw [hy]; exact lk_X11_145_5) rfl hrest rfl rfl hdg ?_
    intro v μ h
    obtain ⟨rfl, rfl⟩ := h
    refine JJ_r1 ?_
    exact kk
  · refine JJ_callU (rest := rest) hs (rfl : vwCl[8]? = some (RX8, TX8, 2)) (kc_Stroke_kind_8 hs hsa) (by omega) mi_X8_kind (by rw [hy]; exact lk_X11_145_8) rfl hrest rfl rfl hdg ?_
    intro v μ h
    obtain ⟨rfl, rfl⟩ := h
    refine JJ_r1 ?_
    exact kk
end CU
