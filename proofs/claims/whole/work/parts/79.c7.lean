section C7
variable {G : Gx} {sc : Nat → Nat → Prop} {n : Nat} {S : Nat → Nat × Nat} {M : Nat → Nat → Int32} {L : Nat → Nat → Int64} {P : Nat → Nat → Option Nat} {x : Nat}

set_option maxHeartbeats 4000000 in
set_option maxRecDepth 100000 in
theorem kc_Svalue_8 {a : Nat} {q : Int32} (ha : (S a).1 = 8 + 1) (hsa : ∀ k, ¬ sc a k) : KK G sc yX8_value cX8_value 2 (some .int) 0 0 0 [.ref a, .int q] (n, S, M, L, P) (ansI (if q = 4 then M a 0 else M a 1) (n, S, M, L, P)) := by
  refine KK_of2 [(0, .ref a), (1, .int q)] (by decide +kernel) (Nat.le_of_ble_eq_true rfl) rfl ?_
  refine JJ_iload_n dX8_value_0 rfl rfl ?_
  refine JJ_iconst (v := 4) dX8_value_1 rfl ?_
  refine JJ_icmp_ne (tgt := 12) dX8_value_2 (by decide) (fun c1 => ?_) (fun c1 => ?_)
  · skip
    refine JJ_aload_n dX8_value_12 rfl rfl ?_
    refine JJ_geti (v := M a 1) (cis := [0, 2, 3, 4, 5, 8]) (k := 1) fa_X8_15 (by decide) ha rfl (hsa 1) rfl dX8_value_13 ?_
    refine JJ_iret dX8_value_16 rfl ?_
    exact ans_i (if_neg c1).symm
  · skip
    refine JJ_aload_n dX8_value_5 rfl rfl ?_
    refine JJ_geti (v := M a 0) (cis := [0, 2, 3, 4, 5, 8]) (k := 0) fa_X8_9 (by decide) ha rfl (hsa 0) rfl dX8_value_6 ?_
    refine JJ_goto (tgt := 16) dX8_value_9 (by decide) ?_
    refine JJ_iret dX8_value_16 rfl ?_
    exact ans_i (if_pos c1).symm
set_option maxHeartbeats 4000000 in
set_option maxRecDepth 100000 in
theorem kc_Svalue_4 {a : Nat} {q : Int32} (ha : (S a).1 = 4 + 1) (hsa : ∀ k, ¬ sc a k) : KK G sc yX8_value cX8_value 2 (some .int) 0 0 0 [.ref a, .int q] (n, S, M, L, P) (ansI (if q = 4 then M a 0 else M a 1) (n, S, M, L, P)) := by
  refine KK_of2 [(0, .ref a), (1, .int q)] (by decide +kernel) (Nat.le_of_ble_eq_true rfl) rfl ?_
  refine JJ_iload_n dX8_value_0 rfl rfl ?_
  refine JJ_iconst (v := 4) dX8_value_1 rfl ?_
  refine JJ_icmp_ne (tgt := 12) dX8_value_2 (by decide) (fun c1 => ?_) (fun c1 => ?_)
  · skip
    refine JJ_aload_n dX8_value_12 rfl rfl ?_
    refine JJ_geti (v := M a 1) (cis := [0, 2, 3, 4, 5, 8]) (k := 1) fa_X8_15 (by decide) ha rfl (hsa 1) rfl dX8_value_13 ?_
    refine JJ_iret dX8_value_16 rfl ?_
    exact ans_i (if_neg c1).symm
  · skip
    refine JJ_aload_n dX8_value_5 rfl rfl ?_
    refine JJ_geti (v := M a 0) (cis := [0, 2, 3, 4, 5, 8]) (k := 0) fa_X8_9 (by decide) ha rfl (hsa 0) rfl dX8_value_6 ?_
    refine JJ_goto (tgt := 16) dX8_value_9 (by decide) ?_
    refine JJ_iret dX8_value_16 rfl ?_
    exact ans_i (if_pos c1).symm
set_option maxHeartbeats 4000000 in
set_option maxRecDepth 100000 in
theorem kc_Svalue_3 {a : Nat} {q : Int32} (ha : (S a).1 = 3 + 1) (hsa : ∀ k, ¬ sc a k) : KK G sc yX8_value cX8_value 2 (some .int) 0 0 0 [.ref a, .int q] (n, S, M, L, P) (ansI (if q = 4 then M a 0 else M a 1) (n, S, M, L, P)) := by
  refine KK_of2 [(0, .ref a), (1, .int q)] (by decide +kernel) (Nat.le_of_ble_eq_true rfl) rfl ?_
  refine JJ_iload_n dX8_value_0 rfl rfl ?_
  refine JJ_iconst (v := 4) dX8_value_1 rfl ?_
  refine JJ_icmp_ne (tgt := 12) dX8_value_2 (by decide) (fun c1 => ?_) (fun c1 => ?_)
  · skip
    refine JJ_aload_n dX8_value_12 rfl rfl ?_
    refine JJ_geti (v := M a 1) (cis := [0, 2, 3, 4, 5, 8]) (k := 1) fa_X8_15 (by decide) ha rfl (hsa 1) rfl dX8_value_13 ?_
    refine JJ_iret dX8_value_16 rfl ?_
    exact ans_i (if_neg c1).symm
  · skip
    refine JJ_aload_n dX8_value_5 rfl rfl ?_
    refine JJ_geti (v := M a 0) (cis := [0, 2, 3, 4, 5, 8]) (k := 0) fa_X8_9 (by decide) ha rfl (hsa 0) rfl dX8_value_6 ?_
    refine JJ_goto (tgt := 16) dX8_value_9 (by decide) ?_
    refine JJ_iret dX8_value_16 rfl ?_
    exact ans_i (if_pos c1).symm
set_option maxHeartbeats 4000000 in
set_option maxRecDepth 100000 in
theorem kc_Svalue_5 {a : Nat} {q : Int32} (ha : (S a).1 = 5 + 1) (hsa : ∀ k, ¬ sc a k) : KK G sc yX8_value cX8_value 2 (some .int) 0 0 0 [.ref a, .int q] (n, S, M, L, P) (ansI (if q = 4 then M a 0 else M a 1) (n, S, M, L, P)) := by
  refine KK_of2 [(0, .ref a), (1, .int q)] (by decide +kernel) (Nat.le_of_ble_eq_true rfl) rfl ?_
  refine JJ_iload_n dX8_value_0 rfl rfl ?_
  refine JJ_iconst (v := 4) dX8_value_1 rfl ?_
  refine JJ_icmp_ne (tgt := 12) dX8_value_2 (by decide) (fun c1 => ?_) (fun c1 => ?_)
  · skip
    refine JJ_aload_n dX8_value_12 rfl rfl ?_
    refine JJ_geti (v := M a 1) (cis := [0, 2, 3, 4, 5, 8]) (k := 1) fa_X8_15 (by decide) ha rfl (hsa 1) rfl dX8_value_13 ?_
    refine JJ_iret dX8_value_16 rfl ?_
    exact ans_i (if_neg c1).symm
  · skip
    refine JJ_aload_n dX8_value_5 rfl rfl ?_
    refine JJ_geti (v := M a 0) (cis := [0, 2, 3, 4, 5, 8]) (k := 0) fa_X8_9 (by decide) ha rfl (hsa 0) rfl dX8_value_6 ?_
    refine JJ_goto (tgt := 16) dX8_value_9 (by decide) ?_
    refine JJ_iret dX8_value_16 rfl ?_
    exact ans_i (if_pos c1).symm
set_option maxHeartbeats 4000000 in
set_option maxRecDepth 100000 in
theorem kc_Svalue_0 {a : Nat} {q : Int32} (ha : (S a).1 = 0 + 1) (hsa : ∀ k, ¬ sc a k) : KK G sc yX8_value cX8_value 2 (some .int) 0 0 0 [.ref a, .int q] (n, S, M, L, P) (ansI (if q = 4 then M a 0 else M a 1) (n, S, M, L, P)) := by
  refine KK_of2 [(0, .ref a), (1, .int q)] (by decide +kernel) (Nat.le_of_ble_eq_true rfl) rfl ?_
  refine JJ_iload_n dX8_value_0 rfl rfl ?_
  refine JJ_iconst (v := 4) dX8_value_1 rfl ?_
  refine JJ_icmp_ne (tgt := 12) dX8_value_2 (by decide) (fun c1 => ?_) (fun c1 => ?_)
  · skip
    refine JJ_aload_n dX8_value_12 rfl rfl ?_
    refine JJ_geti (v := M a 1) (cis := [0, 2, 3, 4, 5, 8]) (k := 1) fa_X8_15 (by decide) ha rfl (hsa 1) rfl dX8_value_13 ?_
    refine JJ_iret dX8_value_16 rfl ?_
    exact ans_i (if_neg c1).symm
  · skip
    refine JJ_aload_n dX8_value_5 rfl rfl ?_
    refine JJ_geti (v := M a 0) (cis := [0, 2, 3, 4, 5, 8]) (k := 0) fa_X8_9 (by decide) ha rfl (hsa 0) rfl dX8_value_6 ?_
    refine JJ_goto (tgt := 16) dX8_value_9 (by decide) ?_
    refine JJ_iret dX8_value_16 rfl ?_
    exact ans_i (if_pos c1).symm
set_option maxHeartbeats 4000000 in
set_option maxRecDepth 100000 in
theorem kc_Svalue_2 {a : Nat} {q : Int32} (ha : (S a).1 = 2 + 1) (hsa : ∀ k, ¬ sc a k) : KK G sc yX8_value cX8_value 2 (some .int) 0 0 0 [.ref a, .int q] (n, S, M, L, P) (ansI (if q = 4 then M a 0 else M a 1) (n, S, M, L, P)) := by
  refine KK_of2 [(0, .ref a), (1, .int q)] (by decide +kernel) (Nat.le_of_ble_eq_true rfl) rfl ?_
  refine JJ_iload_n dX8_value_0 rfl rfl ?_
  refine JJ_iconst (v := 4) dX8_value_1 rfl ?_
  refine JJ_icmp_ne (tgt := 12) dX8_value_2 (by decide) (fun c1 => ?_) (fun c1 => ?_)
  · skip
    refine JJ_aload_n dX8_value_12 rfl rfl ?_
    refine JJ_geti (v := M a 1) (cis := [0, 2, 3, 4, 5, 8]) (k := 1) fa_X8_15 (by decide) ha rfl (hsa 1) rfl dX8_value_13 ?_
    refine JJ_iret dX8_value_16 rfl ?_
    exact ans_i (if_neg c1).symm
  · skip
    refine JJ_aload_n dX8_value_5 rfl rfl ?_
    refine JJ_geti (v := M a 0) (cis := [0, 2, 3, 4, 5, 8]) (k := 0) fa_X8_9 (by decide) ha rfl (hsa 0) rfl dX8_value_6 ?_
    refine JJ_goto (tgt := 16) dX8_value_9 (by decide) ?_
    refine JJ_iret dX8_value_16 rfl ?_
    exact ans_i (if_pos c1).symm
end C7
section CV1
variable {G : Gx} {sc : Nat → Nat → Prop} {y : MethodName} {cc : ByteArray} {nL : Nat} {ret : Option FieldType} {d kc ks : Nat} {Φ : Option Value → Mem → Prop} {pc : Nat} {lv : List (Nat × Value)} {rest : List Value}
variable {n : Nat} {S : Nat → Nat × Nat} {M : Nat → Nat → Int32} {L : Nat → Nat → Int64} {P : Nat → Nat → Option Nat} {a : Nat} {kd nb am q v : Int32}
theorem ju_X8_18 (hst : STK S M a kd nb am) (hy : y.cls = RX8) (hsa : ∀ k, ¬ sc a k) (hd : 1 ≤ d) (hrest : (rest.map fun v => v.category).sum ≤ 8) (hdg : decode cc pc = .ok (.invokevirtual 18, 3)) (kk : JJ G sc y cc nL ret d kc ks Φ (pc + 3) lv (.int (if q = 4 then M a 0 else M a 1) :: rest) (n, S, M, L, P)) : JJ G sc y cc nL ret d kc ks Φ pc lv (.int q :: .ref a :: rest) (n, S, M, L, P) := by
  obtain ⟨ci, hci, hs, -, -, -⟩ := hst
  rcases hci with rfl | rfl | rfl | rfl | rfl | rfl
  · refine JJ_callU (rest := rest) hs (rfl : vwCl[0]? = some (RX0, TX0, 2)) (kc_Svalue_0 hs hsa) (by omega) mi_X8_value (by rw [hy]; exact lk_X8_18_0) rfl hrest rfl rfl hdg ?_
    intro v μ h
    obtain ⟨rfl, rfl⟩ := h
    refine JJ_r1 ?_
    exact kk
  · refine JJ_callU (rest := rest) hs (rfl : vwCl[2]? = some (RX2, TX2, 2)) (kc_Svalue_2 hs hsa) (by omega) mi_X8_value (by rw [hy]; exact lk_X8_18_2) rfl hrest rfl rfl hdg ?_
    intro v μ h
    obtain ⟨rfl, rfl⟩ := h
    refine JJ_r1 ?_
    exact kk
  · refine JJ_callU (rest := rest) hs (rfl : vwCl[3]? = some (RX3, TX3, 2)) (kc_Svalue_3 hs hsa) (by omega) mi_X8_value (by rw [hy]; exact lk_X8_18_3) rfl hrest rfl rfl hdg ?_
    intro v μ h
    obtain ⟨rfl, rfl⟩ := h
    refine JJ_r1 ?_
    exact kk
  · refine JJ_callU (rest := rest) hs (rfl : vwCl[4]? = some (RX4, TX4, 2)) (kc_Svalue_4 hs hsa) (by omega) mi_X8_value (by rw [hy]; exact lk_X8_18_4) rfl hrest rfl rfl hdg ?_
    intro v μ h
    obtain ⟨rfl, rfl⟩ := h
    refine JJ_r1 ?_
    exact kk
  · refine JJ_callU (rest := rest) hs (rfl : vwCl[5]? = some (RX5, TX5, 2)) (kc_Svalue_5 hs hsa) (by omega) mi_X8_value (by rw [hy]; exact lk_X8_18_5) rfl hrest rfl rfl hdg ?_
    intro v μ h
    obtain ⟨rfl, rfl⟩ := h
    refine JJ_r1 ?_
    exact kk
  · refine JJ_callU (rest := rest) hs (rfl : vwCl[8]? = some (RX8, TX8, 2)) (kc_Svalue_8 hs hsa) (by omega) mi_X8_value (by rw [hy]; exact lk_X8_18_8) rfl hrest rfl rfl hdg ?_
    intro v μ h
    obtain ⟨rfl, rfl⟩ := h
    refine JJ_r1 ?_
    exact kk
theorem ju_X11_149 (hst : STK S M a kd nb am) (hy : y.cls = RX11) (hsa : ∀ k, ¬ sc a k) (hd : 1 ≤ d) (hrest : (rest.map fun v => v.category).sum ≤ 8) (hdg : decode cc pc = .ok (.invokevirtual 149, 3)) (kk : JJ G sc y cc nL ret d kc ks Φ (pc + 3) lv (.int (if q = 4 then M a 0 else M a 1) :: rest) (n, S, M, L, P)) : JJ G sc y cc nL ret d kc ks Φ pc lv (.int q :: .ref a :: rest) (n, S, M, L, P) := by
  obtain ⟨ci, hci, hs, -, -, -⟩ := hst
  rcases hci with rfl | rfl | rfl | rfl | rfl | rfl
  · refine JJ_callU (rest := rest) hs (rfl : vwCl[0]? = some (RX0, TX0, 2)) (kc_Svalue_0 hs hsa) (by omega) mi_X8_value (by rw [hy]; exact lk_X11_149_0) rfl hrest rfl rfl hdg ?_
    intro v μ h
    obtain ⟨rfl, rfl⟩ := h
    refine JJ_r1 ?_
    exact kk
  · refine JJ_callU (rest := rest) hs (rfl : vwCl[2]? = some (RX2, TX2, 2)) (kc_Svalue_2 hs hsa) (by omega) mi_X8_value (by rw [hy]; exact lk_X11_149_2) rfl hrest rfl rfl hdg ?_
    intro v μ h
    obtain ⟨rfl, rfl⟩ := h
    refine JJ_r1 ?_
    exact kk
  · refine JJ_callU (rest := rest) hs (rfl : vwCl[3]? = some (RX3, TX3, 2)) (kc_Svalue_3 hs hsa) (by omega) mi_X8_value (by rw [hy]; exact lk_X11_149_3) rfl hrest rfl rfl hdg ?_
    intro v μ h
    obtain ⟨rfl, rfl⟩ := h
    refine JJ_r1 ?_
    exact kk
  · refine JJ_callU (rest := rest) hs (rfl : vwCl[4]? = some (RX4, TX4, 2)) (kc_Svalue_4 hs hsa) (by omega) mi_X8_value (by rw [hy]; exact lk_X11_149_4) rfl hrest rfl rfl hdg ?_
    intro v μ h
    obtain ⟨rfl, rfl⟩ := h
    refine JJ_r1 ?_
    exact kk
  · refine JJ_callU (rest := rest) hs (rfl : vwCl[5]? = some (RX5, TX5, 2)) (kc_Svalue_5 hs hsa) (by omega) mi_X8_value (by rw [hy]; exact lk_X11_149_5) rfl hrest rfl rfl hdg ?_
    intro v μ h
    obtain ⟨rfl, rfl⟩ := h
    refine JJ_r1 ?_
    exact kk
  · refine JJ_callU (rest := rest) hs (rfl : vwCl[8]? = some (RX8, TX8, 2)) (kc_Svalue_8 hs hsa) (by omega) mi_X8_value (by rw [hy]; exact lk_X11_149_8) rfl hrest rfl rfl hdg ?_
    intro v μ h
    obtain ⟨rfl, rfl⟩ := h
    refine JJ_r1 ?_
    exact kk
end CV1
section C7b
variable {G : Gx} {sc : Nat → Nat → Prop} {n : Nat} {S : Nat → Nat × Nat} {M : Nat → Nat → Int32} {L : Nat → Nat → Int64} {P : Nat → Nat → Option Nat} {x : Nat}

set_option maxHeartbeats 4000000 in
set_option maxRecDepth 100000 in
theorem kc_Schange_8 {a : Nat} {q v : Int32} (ha : (S a).1 = 8 + 1) (hsa : ∀ k, ¬ sc a k) : KK G sc yX8_change cX8_change 4 (some .int) 1 0 0 [.ref a, .int q, .int v] (n, S, M, L, P) (fun u μ => u = some (.int (if q = 4 then M a 0 else M a 1)) ∧ μ = (n, S, up2 M a (if q = 4 then 0 else 1) v, L, P)) := by
  have hst : STK S M a (s_kd 8) (M a 0) (M a 1) := ⟨8, by decide, ha, rfl, rfl, rfl⟩
  refine KK_of2 [(0, .ref a), (1, .int q), (2, .int v)] (by decide +kernel) (Nat.le_of_ble_eq_true rfl) rfl ?_
  refine JJ_aload_n dX8_change_0 rfl rfl ?_
  refine JJ_iload_n dX8_change_1 rfl rfl ?_
  refine ju_X8_18 hst rfl hsa (by omega) (Nat.le_of_ble_eq_true rfl) dX8_change_2 ?_
  refine JJ_istore_n (lv' := [(3, .int (if q = 4 then M a 0 else M a 1)), (0, .ref a), (1, .int q), (2, .int v)]) dX8_change_5 rfl (by decide) rfl ?_
  refine JJ_iload_n dX8_change_6 rfl rfl ?_
  refine JJ_iconst (v := 4) dX8_change_7 rfl ?_
  refine JJ_icmp_ne (tgt := 19) dX8_change_8 (by decide) (fun c1 => ?_) (fun c1 => ?_)
  · skip
    refine JJ_aload_n dX8_change_19 rfl rfl ?_
    refine JJ_iload_n dX8_change_20 rfl rfl ?_
    refine JJ_puti (cis := [0, 2, 3, 4, 5, 8]) (k := 1) fa_X8_15 (by decide) ha rfl (fun r hr => by cases hr; exact ⟨rfl, by decide +kernel⟩) dX8_change_21 (fun M2 hM3 => ?_)
    refine JJ_iload_n dX8_change_24 rfl rfl ?_
    refine JJ_iret dX8_change_25 rfl ?_
    exact ⟨rfl, mem_eq (by rw [hM3, if_neg c1])⟩
  · skip
    refine JJ_aload_n dX8_change_11 rfl rfl ?_
    refine JJ_iload_n dX8_change_12 rfl rfl ?_
    refine JJ_puti (cis := [0, 2, 3, 4, 5, 8]) (k := 0) fa_X8_9 (by decide) ha rfl (fun r hr => by cases hr; exact ⟨rfl, by decide +kernel⟩) dX8_change_13 (fun M4 hM5 => ?_)
    refine JJ_goto (tgt := 24) dX8_change_16 (by decide) ?_
    refine JJ_iload_n dX8_change_24 rfl rfl ?_
    refine JJ_iret dX8_change_25 rfl ?_
    exact ⟨rfl, mem_eq (by rw [hM5, if_pos c1])⟩
set_option maxHeartbeats 4000000 in
set_option maxRecDepth 100000 in
theorem kc_Schange_4 {a : Nat} {q v : Int32} (ha : (S a).1 = 4 + 1) (hsa : ∀ k, ¬ sc a k) : KK G sc yX8_change cX8_change 4 (some .int) 1 0 0 [.ref a, .int q, .int v] (n, S, M, L, P) (fun u μ => u = some (.int (if q = 4 then M a 0 else M a 1)) ∧ μ = (n, S, up2 M a (if q = 4 then 0 else 1) v, L, P)) := by
  have hst : STK S M a (s_kd 4) (M a 0) (M a 1) := ⟨4, by decide, ha, rfl, rfl, rfl⟩
  refine KK_of2 [(0, .ref a), (1, .int q), (2, .int v)] (by decide +kernel) (Nat.le_of_ble_eq_true rfl) rfl ?_
  refine JJ_aload_n dX8_change_0 rfl rfl ?_
  refine JJ_iload_n dX8_change_1 rfl rfl ?_
  refine ju_X8_18 hst rfl hsa (by omega) (Nat.le_of_ble_eq_true rfl) dX8_change_2 ?_
  refine JJ_istore_n (lv' := [(3, .int (if q = 4 then M a 0 else M a 1)), (0, .ref a), (1, .int q), (2, .int v)]) dX8_change_5 rfl (by decide) rfl ?_
  refine JJ_iload_n dX8_change_6 rfl rfl ?_
  refine JJ_iconst (v := 4) dX8_change_7 rfl ?_
  refine JJ_icmp_ne (tgt := 19) dX8_change_8 (by decide) (fun c1 => ?_) (fun c1 => ?_)
  · skip
    refine JJ_aload_n dX8_change_19 rfl rfl ?_
    refine JJ_iload_n dX8_change_20 rfl rfl ?_
    refine JJ_puti (cis := [0, 2, 3, 4, 5, 8]) (k := 1) fa_X8_15 (by decide) ha rfl (fun r hr => by cases hr; exact ⟨rfl, by decide +kernel⟩) dX8_change_21 (fun M2 hM3 => ?_)
    refine JJ_iload_n dX8_change_24 rfl rfl ?_
    refine JJ_iret dX8_change_25 rfl ?_
    exact ⟨rfl, mem_eq (by rw [hM3, if_neg c1])⟩
  · skip
    refine JJ_aload_n dX8_change_11 rfl rfl ?_
    refine JJ_iload_n dX8_change_12 rfl rfl ?_
    refine JJ_puti (cis := [0, 2, 3, 4, 5, 8]) (k := 0) fa_X8_9 (by decide) ha rfl (fun r hr => by cases hr; exact ⟨rfl, by decide +kernel⟩) dX8_change_13 (fun M4 hM5 => ?_)
    refine JJ_goto (tgt := 24) dX8_change_16 (by decide) ?_
    refine JJ_iload_n dX8_change_24 rfl rfl ?_
    refine JJ_iret dX8_change_25 rfl ?_
    exact ⟨rfl, mem_eq (by rw [hM5, if_pos c1])⟩
set_option maxHeartbeats 4000000 in
set_option maxRecDepth 100000 in
theorem kc_Schange_3 {a : Nat} {q v : Int32} (ha : (S a).1 = 3 + 1) (hsa : ∀ k, ¬ sc a k) : KK G sc yX8_change cX8_change 4 (some .int) 1 0 0 [.ref a, .int q, .int v] (n, S, M, L, P) (fun u μ => u = some (.int (if q = 4 then M a 0 else M a 1)) ∧ μ = (n, S, up2 M a (if q = 4 then 0 else 1) v, L, P)) := by
  have hst : STK S M a (s_kd 3) (M a 0) (M a 1) := ⟨3, by decide, ha, rfl, rfl, rfl⟩
  refine KK_of2 [(0, .ref a), (1, .int q), (2, .int v)] (by decide +kernel) (Nat.le_of_ble_eq_true rfl) rfl ?_
  refine JJ_aload_n dX8_change_0 rfl rfl ?_
  refine JJ_iload_n dX8_change_1 rfl rfl ?_
  refine ju_X8_18 hst rfl hsa (by omega) (Nat.le_of_ble_eq_true rfl) dX8_change_2 ?_
  refine JJ_istore_n (lv' := [(3, .int (if q = 4 then M a 0 else M a 1)), (0, .ref a), (1, .int q), (2, .int v)]) dX8_change_5 rfl (by decide) rfl ?_
  refine JJ_iload_n dX8_change_6 rfl rfl ?_
  refine JJ_iconst (v := 4) dX8_change_7 rfl ?_
  refine JJ_icmp_ne (tgt := 19) dX8_change_8 (by decide) (fun c1 => ?_) (fun c1 => ?_)
  · skip
    refine JJ_aload_n dX8_change_19 rfl rfl ?_
    refine JJ_iload_n dX8_change_20 rfl rfl ?_
    refine JJ_puti (cis := [0, 2, 3, 4, 5, 8]) (k := 1) fa_X8_15 (by decide) ha rfl (fun r hr => by cases hr; exact ⟨rfl, by decide +kernel⟩) dX8_change_21 (fun M2 hM3 => ?_)
    refine JJ_iload_n dX8_change_24 rfl rfl ?_
    refine JJ_iret dX8_change_25 rfl ?_
    exact ⟨rfl, mem_eq (by rw [hM3, if_neg c1])⟩
  · skip
    refine JJ_aload_n dX8_change_11 rfl rfl ?_
    refine JJ_iload_n dX8_change_12 rfl rfl ?_
    refine JJ_puti (cis := [0, 2, 3, 4, 5, 8]) (k := 0) fa_X8_9 (by decide) ha rfl (fun r hr => by cases hr; exact ⟨rfl, by decide +kernel⟩) dX8_change_13 (fun M4 hM5 => ?_)
    refine JJ_goto (tgt := 24) dX8_change_16 (by decide) ?_
    refine JJ_iload_n dX8_change_24 rfl rfl ?_
    refine JJ_iret dX8_change_25 rfl ?_
    exact ⟨rfl, mem_eq (by rw [hM5, if_pos c1])⟩
set_option maxHeartbeats 4000000 in
set_option maxRecDepth 100000 in
theorem kc_Schange_5 {a : Nat} {q v : Int32} (ha : (S a).1 = 5 + 1) (hsa : ∀ k, ¬ sc a k) : KK G sc yX8_change cX8_change 4 (some .int) 1 0 0 [.ref a, .int q, .int v] (n, S, M, L, P) (fun u μ => u = some (.int (if q = 4 then M a 0 else M a 1)) ∧ μ = (n, S, up2 M a (if q = 4 then 0 else 1) v, L, P)) := by
  have hst : STK S M a (s_kd 5) (M a 0) (M a 1) := ⟨5, by decide, ha, rfl, rfl, rfl⟩
  refine KK_of2 [(0, .ref a), (1, .int q), (2, .int v)] (by decide +kernel) (Nat.le_of_ble_eq_true rfl) rfl ?_
  refine JJ_aload_n dX8_change_0 rfl rfl ?_
  refine JJ_iload_n dX8_change_1 rfl rfl ?_
  refine ju_X8_18 hst rfl hsa (by omega) (Nat.le_of_ble_eq_true rfl) dX8_change_2 ?_
  refine JJ_istore_n (lv' := [(3, .int (if q = 4 then M a 0 else M a 1)), (0, .ref a), (1, .int q), (2, .int v)]) dX8_change_5 rfl (by decide) rfl ?_
  refine JJ_iload_n dX8_change_6 rfl rfl ?_
  refine JJ_iconst (v := 4) dX8_change_7 rfl ?_
  refine JJ_icmp_ne (tgt := 19) dX8_change_8 (by decide) (fun c1 => ?_) (fun c1 => ?_)
  · skip
    refine JJ_aload_n dX8_change_19 rfl rfl ?_
    refine JJ_iload_n dX8_change_20 rfl rfl ?_
    refine JJ_puti (cis := [0, 2, 3, 4, 5, 8]) (k := 1) fa_X8_15 (by decide) ha rfl (fun r hr => by cases hr; exact ⟨rfl, by decide +kernel⟩) dX8_change_21 (fun M2 hM3 => ?_)
    refine JJ_iload_n dX8_change_24 rfl rfl ?_
    refine JJ_iret dX8_change_25 rfl ?_
    exact ⟨rfl, mem_eq (by rw [hM3, if_neg c1])⟩
  · skip
    refine JJ_aload_n dX8_change_11 rfl rfl ?_
    refine JJ_iload_n dX8_change_12 rfl rfl ?_
    refine JJ_puti (cis := [0, 2, 3, 4, 5, 8]) (k := 0) fa_X8_9 (by decide) ha rfl (fun r hr => by cases hr; exact ⟨rfl, by decide +kernel⟩) dX8_change_13 (fun M4 hM5 => ?_)
    refine JJ_goto (tgt := 24) dX8_change_16 (by decide) ?_
    refine JJ_iload_n dX8_change_24 rfl rfl ?_
    refine JJ_iret dX8_change_25 rfl ?_
    exact ⟨rfl, mem_eq (by rw [hM5, if_pos c1])⟩
set_option maxHeartbeats 4000000 in
set_option maxRecDepth 100000 in
theorem kc_Schange_0 {a : Nat} {q v : Int32} (ha : (S a).1 = 0 + 1) (hsa : ∀ k, ¬ sc a k) : KK G sc yX8_change cX8_change 4 (some .int) 1 0 0 [.ref a, .int q, .int v] (n, S, M, L, P) (fun u μ => u = some (.int (if q = 4 then M a 0 else M a 1)) ∧ μ = (n, S, up2 M a (if q = 4 then 0 else 1) v, L, P)) := by
  have hst : STK S M a (s_kd 0) (M a 0) (M a 1) := ⟨0, by decide, ha, rfl, rfl, rfl⟩
  refine KK_of2 [(0, .ref a), (1, .int q), (2, .int v)] (by decide +kernel) (Nat.le_of_ble_eq_true rfl) rfl ?_
  refine JJ_aload_n dX8_change_0 rfl rfl ?_
  refine JJ_iload_n dX8_change_1 rfl rfl ?_
  refine ju_X8_18 hst rfl hsa (by omega) (Nat.le_of_ble_eq_true rfl) dX8_change_2 ?_
  refine JJ_istore_n (lv' := [(3, .int (if q = 4 then M a 0 else M a 1)), (0, .ref a), (1, .int q), (2, .int v)]) dX8_change_5 rfl (by decide) rfl ?_
  refine JJ_iload_n dX8_change_6 rfl rfl ?_
  refine JJ_iconst (v := 4) dX8_change_7 rfl ?_
  refine JJ_icmp_ne (tgt := 19) dX8_change_8 (by decide) (fun c1 => ?_) (fun c1 => ?_)
  · skip
    refine JJ_aload_n dX8_change_19 rfl rfl ?_
    refine JJ_iload_n dX8_change_20 rfl rfl ?_
    refine JJ_puti (cis := [0, 2, 3, 4, 5, 8]) (k := 1) fa_X8_15 (by decide) ha rfl (fun r hr => by cases hr; exact ⟨rfl, by decide +kernel⟩) dX8_change_21 (fun M2 hM3 => ?_)
    refine JJ_iload_n dX8_change_24 rfl rfl ?_
    refine JJ_iret dX8_change_25 rfl ?_
    exact ⟨rfl, mem_eq (by rw [hM3, if_neg c1])⟩
  · skip
    refine JJ_aload_n dX8_change_11 rfl rfl ?_
    refine JJ_iload_n dX8_change_12 rfl rfl ?_
    refine JJ_puti (cis := [0, 2, 3, 4, 5, 8]) (k := 0) fa_X8_9 (by decide) ha rfl (fun r hr => by cases hr; exact ⟨rfl, by decide +kernel⟩) dX8_change_13 (fun M4 hM5 => ?_)
    refine JJ_goto (tgt := 24) dX8_change_16 (by decide) ?_
    refine JJ_iload_n dX8_change_24 rfl rfl ?_
    refine JJ_iret dX8_change_25 rfl ?_
    exact ⟨rfl, mem_eq (by rw [hM5, if_pos c1])⟩
set_option maxHeartbeats 4000000 in
set_option maxRecDepth 100000 in
theorem kc_Schange_2 {a : Nat} {q v : Int32} (ha : (S a).1 = 2 + 1) (hsa : ∀ k, ¬ sc a k) : KK G sc yX8_change cX8_change 4 (some .int) 1 0 0 [.ref a, .int q, .int v] (n, S, M, L, P) (fun u μ => u = some (.int (if q = 4 then M a 0 else M a 1)) ∧ μ = (n, S, up2 M a (if q = 4 then 0 else 1) v, L, P)) := by
  have hst : STK S M a (s_kd 2) (M a 0) (M a 1) := ⟨2, by decide, ha, rfl, rfl, rfl⟩
  refine KK_of2 [(0, .ref a), (1, .int q), (2, .int v)] (by decide +kernel) (Nat.le_of_ble_eq_true rfl) rfl ?_
  refine JJ_aload_n dX8_change_0 rfl rfl ?_
  refine JJ_iload_n dX8_change_1 rfl rfl ?_
  refine ju_X8_18 hst rfl hsa (by omega) (Nat.le_of_ble_eq_true rfl) dX8_change_2 ?_
  refine JJ_istore_n (lv' := [(3, .int (if q = 4 then M a 0 else M a 1)), (0, .ref a), (1, .int q), (2, .int v)]) dX8_change_5 rfl (by decide) rfl ?_
  refine JJ_iload_n dX8_change_6 rfl rfl ?_
  refine JJ_iconst (v := 4) dX8_change_7 rfl ?_
  refine JJ_icmp_ne (tgt := 19) dX8_change_8 (by decide) (fun c1 => ?_) (fun c1 => ?_)
  · skip
    refine JJ_aload_n dX8_change_19 rfl rfl ?_
    refine JJ_iload_n dX8_change_20 rfl rfl ?_
    refine JJ_puti (cis := [0, 2, 3, 4, 5, 8]) (k := 1) fa_X8_15 (by decide) ha rfl (fun r hr => by cases hr; exact ⟨rfl, by decide +kernel⟩) dX8_change_21 (fun M2 hM3 => ?_)
    refine JJ_iload_n dX8_change_24 rfl rfl ?_
    refine JJ_iret dX8_change_25 rfl ?_
    exact ⟨rfl, mem_eq (by rw [hM3, if_neg c1])⟩
  · skip
    refine JJ_aload_n dX8_change_11 rfl rfl ?_
    refine JJ_iload_n dX8_change_12 rfl rfl ?_
    refine JJ_puti (cis := [0, 2, 3, 4, 5, 8]) (k := 0) fa_X8_9 (by decide) ha rfl (fun r hr => by cases hr; exact ⟨rfl, by decide +kernel⟩) dX8_change_13 (fun M4 hM5 => ?_)
    refine JJ_goto (tgt := 24) dX8_change_16 (by decide) ?_
    refine JJ_iload_n dX8_change_24 rfl rfl ?_
    refine JJ_iret dX8_change_25 rfl ?_
    exact ⟨rfl, mem_eq (by rw [hM5, if_pos c1])⟩
end C7b
section CV2
variable {G : Gx} {sc : Nat → Nat → Prop} {y : MethodName} {cc : ByteArray} {nL : Nat} {ret : Option FieldType} {d kc ks : Nat} {Φ : Option Value → Mem → Prop} {pc : Nat} {lv : List (Nat × Value)} {rest : List Value}
variable {n : Nat} {S : Nat → Nat × Nat} {M : Nat → Nat → Int32} {L : Nat → Nat → Int64} {P : Nat → Nat → Option Nat} {a : Nat} {kd nb am q v : Int32}
theorem ju_X11_133 (hst : STK S M a kd nb am) (hy : y.cls = RX11) (hsa : ∀ k, ¬ sc a k) (hd : 2 ≤ d) (hrest : (rest.map fun v => v.category).sum ≤ 8) (hdg : decode cc pc = .ok (.invokevirtual 133, 3)) (kk : ∀ M1, M1 = up2 M a (if q = 4 then 0 else 1) v → JJ G sc y cc nL ret d kc ks Φ (pc + 3) lv (.int (if q = 4 then M a 0 else M a 1) :: rest) (n, S, M1, L, P)) : JJ G sc y cc nL ret d kc ks Φ pc lv (.int v :: .int q :: .ref a :: rest) (n, S, M, L, P) := by
  obtain ⟨ci, hci, hs, -, -, -⟩ := hst
  rcases hci with rfl | rfl | rfl | rfl | rfl | rfl
  · refine JJ_callU (rest := rest) hs (rfl : vwCl[0]? = some (RX0, TX0, 2)) (kc_Schange_0 hs hsa) (by omega) mi_X8_change (by rw [hy]; exact lk_X11_133_0) rfl hrest rfl rfl hdg ?_
    intro v μ h
    obtain ⟨rfl, rfl⟩ := h
    refine JJ_r1 ?_
    exact kk _ rfl
  · refine JJ_callU (rest := rest) hs (rfl : vwCl[2]? = some (RX2, TX2, 2)) (kc_Schange_2 hs hsa) (by omega) mi_X8_change (by rw [hy]; exact lk_X11_133_2) rfl hrest rfl rfl hdg ?_
    intro v μ h
    obtain ⟨rfl, rfl⟩ := h
    refine JJ_r1 ?_
    exact kk _ rfl
  · refine JJ_callU (rest := rest) hs (rfl : vwCl[3]? = some (RX3, TX3, 2)) (kc_Schange_3 hs hsa) (by omega) mi_X8_change (by rw [hy]; exact lk_X11_133_3) rfl hrest rfl rfl hdg ?_
    intro v μ h
    obtain ⟨rfl, rfl⟩ := h
    refine JJ_r1 ?_
    exact kk _ rfl
  · refine JJ_callU (rest := rest) hs (rfl : vwCl[4]? = some (RX4, TX4, 2)) (kc_Schange_4 hs hsa) (by omega) mi_X8_change (by rw [hy]; exact lk_X11_133_4) rfl hrest rfl rfl hdg ?_
    intro v μ h
    obtain ⟨rfl, rfl⟩ := h
    refine JJ_r1 ?_
    exact kk _ rfl
  · refine JJ_callU (rest := rest) hs (rfl : vwCl[5]? = some (RX5, TX5, 2)) (kc_Schange_5 hs hsa) (by omega) mi_X8_change (by rw [hy]; exact lk_X11_133_5) rfl hrest rfl rfl hdg ?_
    intro v μ h
    obtain ⟨rfl, rfl⟩ := h
    refine JJ_r1 ?_
    exact kk _ rfl
  · refine JJ_callU (rest := rest) hs (rfl : vwCl[8]? = some (RX8, TX8, 2)) (kc_Schange_8 hs hsa) (by omega) mi_X8_change (by rw [hy]; exact lk_X11_133_8) rfl hrest rfl rfl hdg ?_
    intro v μ h
    obtain ⟨rfl, rfl⟩ := h
    refine JJ_r1 ?_
    exact kk _ rfl
end CV2
