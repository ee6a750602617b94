section RP1
variable {G : Gx} {sc : Nat → Nat → Prop} {n : Nat} {S : Nat → Nat × Nat} {M : Nat → Nat → Int32} {L : Nat → Nat → Int64} {P : Nat → Nat → Option Nat} {o : Nat}

set_option maxHeartbeats 4000000 in
set_option maxRecDepth 100000 in
theorem kp_byteAt {r m i : Nat} (hg : RDG o r m M) (hi : i < 1000) (hR : RWF o S P) (hX : HX o sc) : KK G sc yX12_byteAt cX12_byteAt 2 (some .int) 1 0 0 [.ref o, .int (nI i)] (n, S, M, L, P) (ansI (bt (TB o r M) m i) (n, S, M, L, P)) := by
  refine KK_of2 [(0, .ref o), (1, .int (nI i))] (by decide +kernel) (Nat.le_of_ble_eq_true rfl) rfl ?_
  refine JJ_iload_n dX12_byteAt_0 rfl rfl ?_
  refine JJ_aload_n dX12_byteAt_1 rfl rfl ?_
  refine JJ_geti (v := nI m) (cis := [12]) (k := 23) fa_X12_124 (by decide) hR.1 rfl (hX.1 23) hg.2.2.2 dX12_byteAt_2 ?_
  refine JJ_icmp_ge (tgt := 22) dX12_byteAt_5 (by decide) (fun c1 => ?_) (fun c1 => ?_)
  · skip
    refine JJ_iconst (v := (-1)) dX12_byteAt_22 rfl ?_
    refine JJ_iret dX12_byteAt_23 rfl ?_
    exact ans_i (bt_out ((nI_leI (by have := hg.2.1; omega) (by omega)).mp c1)).symm
  · skip
    have h1 := hg.1
    have h2 := hg.2.1
    have him : i < m := Nat.lt_of_not_le (fun z => c1 ((nI_leI (by omega) (by omega)).mpr z))
    refine JJ_aload_n dX12_byteAt_8 rfl rfl ?_
    refine JJ_getr (q := o + 1) (cis := [12]) (k := 1) fa_X12_13 (by decide) hR.1 rfl (hR.2 (1, 1, 20, 960) (by decide)).1 dX12_byteAt_9 ?_
    refine JJ_aload_n dX12_byteAt_12 rfl rfl ?_
    refine JJ_geti (v := nI (160 * r)) (cis := [12]) (k := 22) fa_X12_127 (by decide) hR.1 rfl (hX.1 22) hg.2.2.1 dX12_byteAt_13 ?_
    refine JJ_iload_n dX12_byteAt_16 rfl rfl ?_
    refine JJ_iadd dX12_byteAt_17 ?_
    refine JJ_eqi (x2 := nI (160 * r + i)) (nI_add (160 * r) (i)) ?_
    refine JJ_ialdX (v := M (o + 1) (160 * r + i)) (hR.2 (1, 1, 20, 960) (by decide)).2 (IX_nI (by omega) (by omega)) (hX.2 1 _ (by decide) (by decide)) rfl dX12_byteAt_18 ?_
    refine JJ_goto (tgt := 23) dX12_byteAt_19 (by decide) ?_
    refine JJ_iret dX12_byteAt_23 rfl ?_
    exact ans_i (bt_in (b := TB o r M) him).symm
set_option maxHeartbeats 4000000 in
set_option maxRecDepth 100000 in
theorem kp_fail0 (hb : M o 29 = 0) (hR : RWF o S P) (hX : HX o sc) : KK G sc yX12_fail cX12_fail 1 none 0 0 0 [.ref o] (n, S, M, L, P) (ansV (n, S, up2 (up2 M o 29 1) o 30 (M o 26), L, P)) := by
  refine KK_of2 [(0, .ref o)] (by decide +kernel) (Nat.le_of_ble_eq_true rfl) rfl ?_
  refine JJ_aload_n dX12_fail_0 rfl rfl ?_
  refine JJ_geti (v := 0) (cis := [12]) (k := 29) fa_X12_157 (by decide) hR.1 rfl (hX.1 29) hb dX12_fail_1 ?_
  refine JJ_if_ne (tgt := 20) dX12_fail_4 (by decide) (fun c1 => absurd (by decide) c1) (fun _ => ?_)
  refine JJ_aload_n dX12_fail_7 rfl rfl ?_
  refine JJ_iconst (v := 1) dX12_fail_8 rfl ?_
  refine JJ_putz (cis := [12]) (k := 29) fa_X12_157 (by decide) hR.1 rfl (fun r hr => by cases hr; exact ⟨rfl, by decide +kernel⟩) (Or.inr rfl) dX12_fail_9 (fun M2 hM3 => ?_)
  refine JJ_aload_n dX12_fail_12 rfl rfl ?_
  refine JJ_aload_n dX12_fail_13 rfl rfl ?_
  refine JJ_geti (v := M o 26) (cis := [12]) (k := 26) fa_X12_137 (by decide) hR.1 rfl (hX.1 26) (rd_n hM3 (by omega) rfl) dX12_fail_14 ?_
  refine JJ_puti (cis := [12]) (k := 30) fa_X12_161 (by decide) hR.1 rfl (fun r hr => by cases hr; exact ⟨rfl, by decide +kernel⟩) dX12_fail_17 (fun M4 hM5 => ?_)
  refine JJ_vret dX12_fail_20 rfl ?_
  exact ⟨rfl, mem_eq (by rw [hM5, hM3])⟩
set_option maxHeartbeats 4000000 in
set_option maxRecDepth 100000 in
theorem kp_fail1 (hb : M o 29 = 1) (hR : RWF o S P) (hX : HX o sc) : KK G sc yX12_fail cX12_fail 1 none 0 0 0 [.ref o] (n, S, M, L, P) (ansV (n, S, M, L, P)) := by
  refine KK_of2 [(0, .ref o)] (by decide +kernel) (Nat.le_of_ble_eq_true rfl) rfl ?_
  refine JJ_aload_n dX12_fail_0 rfl rfl ?_
  refine JJ_geti (v := 1) (cis := [12]) (k := 29) fa_X12_157 (by decide) hR.1 rfl (hX.1 29) hb dX12_fail_1 ?_
  refine JJ_if_ne (tgt := 20) dX12_fail_4 (by decide) (fun _ => ?_) (fun c1 => absurd c1 (by decide))
  refine JJ_vret dX12_fail_20 rfl ?_
  exact ⟨rfl, rfl⟩
set_option maxHeartbeats 4000000 in
set_option maxRecDepth 100000 in
theorem kp_isLetter {r m i s e : Nat} {l : Int32} (hg : RDG o r m M) (hi : i < 10) (hs : s < 500) (he : e < 500) (h26 : M o 26 = nI s) (h24 : M o 24 = nI e) (hR : RWF o S P) (hX : HX o sc) : KK G sc yX12_isLetter cX12_isLetter 3 (some .boolean) 2 0 0 [.ref o, .int (nI i), .int l] (n, S, M, L, P) (ansI (b2 (if s + i < e then bt (TB o r M) m (s + i) = l else l = 0)) (n, S, M, L, P)) := by
  refine KK_of2 [(0, .ref o), (1, .int (nI i)), (2, .int l)] (by decide +kernel) (Nat.le_of_ble_eq_true rfl) rfl ?_
  refine JJ_aload_n dX12_isLetter_0 rfl rfl ?_
  refine JJ_geti (v := nI s) (cis := [12]) (k := 26) fa_X12_137 (by decide) hR.1 rfl (hX.1 26) h26 dX12_isLetter_1 ?_
  refine JJ_iload_n dX12_isLetter_4 rfl rfl ?_
  refine JJ_iadd dX12_isLetter_5 ?_
  refine JJ_eqi (x2 := nI (s + i)) (nI_add (s) (i)) ?_
  refine JJ_aload_n dX12_isLetter_6 rfl rfl ?_
  refine JJ_geti (v := nI e) (cis := [12]) (k := 24) fa_X12_130 (by decide) hR.1 rfl (hX.1 24) h24 dX12_isLetter_7 ?_
  refine JJ_icmp_ge (tgt := 35) dX12_isLetter_10 (by decide) (fun c1 => ?_) (fun c1 => ?_)
  · skip
    refine JJ_iload_n dX12_isLetter_35 rfl rfl ?_
    refine JJ_if_ne (tgt := 43) dX12_isLetter_36 (by decide) (fun c2 => ?_) (fun c2 => ?_)
    · skip
      refine JJ_iconst (v := 0) dX12_isLetter_43 rfl ?_
      refine JJ_zret dX12_isLetter_44 rfl (Or.inl rfl) ?_
      have hp : ¬ (if s + i < e then bt (TB o r M) m (s + i) = l else l = 0) := by rw [(if_neg (Nat.not_lt.mpr ((nI_leI (by omega) (by omega)).mp c1)))]; exact c2
      exact ans_i (b2_f hp).symm
    · skip
      refine JJ_iconst (v := 1) dX12_isLetter_39 rfl ?_
      refine JJ_goto (tgt := 44) dX12_isLetter_40 (by decide) ?_
      refine JJ_zret dX12_isLetter_44 rfl (Or.inr rfl) ?_
      have hp : (if s + i < e then bt (TB o r M) m (s + i) = l else l = 0) := by rw [(if_neg (Nat.not_lt.mpr ((nI_leI (by omega) (by omega)).mp c1)))]; exact c2
      exact ans_i (b2_t hp).symm
  · skip
    refine JJ_aload_n dX12_isLetter_13 rfl rfl ?_
    refine JJ_aload_n dX12_isLetter_14 rfl rfl ?_
    refine JJ_geti (v := nI s) (cis := [12]) (k := 26) fa_X12_137 (by decide) hR.1 rfl (hX.1 26) h26 dX12_isLetter_15 ?_
    refine JJ_iload_n dX12_isLetter_18 rfl rfl ?_
    refine JJ_iadd dX12_isLetter_19 ?_
    refine JJ_eqi (x2 := nI (s + i)) (nI_add (s) (i)) ?_
    refine JJ_callV (rest := []) hR.1 rfl rfl (kp_byteAt (i := s + i) hg (by omega) hR hX) (by decide) mi_X12_byteAt lk_X12_133 rfl (Nat.le_of_ble_eq_true rfl) rfl rfl dX12_isLetter_20 ?_
    intro v3 μ4 h5
    obtain ⟨rfl, rfl⟩ := h5
    refine JJ_r1 ?_
    refine JJ_iload_n dX12_isLetter_23 rfl rfl ?_
    refine JJ_icmp_ne (tgt := 31) dX12_isLetter_24 (by decide) (fun c6 => ?_) (fun c6 => ?_)
    · skip
      refine JJ_iconst (v := 0) dX12_isLetter_31 rfl ?_
      refine JJ_goto (tgt := 44) dX12_isLetter_32 (by decide) ?_
      refine JJ_zret dX12_isLetter_44 rfl (Or.inl rfl) ?_
      have hp : ¬ (if s + i < e then bt (TB o r M) m (s + i) = l else l = 0) := by rw [(if_pos (Nat.lt_of_not_le (fun q => c1 ((nI_leI (by omega) (by omega)).mpr q))))]; exact c6
      exact ans_i (b2_f hp).symm
    · skip
      refine JJ_iconst (v := 1) dX12_isLetter_27 rfl ?_
      refine JJ_goto (tgt := 44) dX12_isLetter_28 (by decide) ?_
      refine JJ_zret dX12_isLetter_44 rfl (Or.inr rfl) ?_
      have hp : (if s + i < e then bt (TB o r M) m (s + i) = l else l = 0) := by rw [(if_pos (Nat.lt_of_not_le (fun q => c1 ((nI_leI (by omega) (by omega)).mpr q))))]; exact c6
      exact ans_i (b2_t hp).symm
end RP1
