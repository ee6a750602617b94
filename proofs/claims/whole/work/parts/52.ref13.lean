section REF13
variable {G : Gx} {sc : Nat → Nat → Prop} {n : Nat} {S : Nat → Nat × Nat} {M : Nat → Nat → Int32} {L : Nat → Nat → Int64} {P : Nat → Nat → Option Nat} {o : Nat}

set_option maxHeartbeats 4000000 in
set_option maxRecDepth 100000 in
theorem kr_count {what : Int32} {A : Abs} (hA : rABS o M A) (hg2 : RNG2 A) (hR : RWF o S P) (hN : HSR o sc) : KK G sc yX12_count cX12_count 2 (some .int) 3 0 0 [.ref o, .int what] (n, S, M, L, P) (ansI (zr_count A what) (n, S, M, L, P)) := by
  have hg : RNG A := hg2.1
  refine KK_of2 [(0, .ref o), (1, .int what)] (by decide +kernel) (Nat.le_of_ble_eq_true rfl) rfl ?_
  refine JJ_iload_n dX12_count_0 rfl rfl ?_
  refine JJ_i2l dX12_count_1 ?_
  refine JJ_lconst (v := 0) dX12_count_2 rfl ?_
  refine JJ_ldc2 (v := 4) dX12_count_3 tb_1098 ?_
  refine JJ_callS (rest := []) (kr_in32 (v := what) (lo := 0) (hi := 4) (a := 0) (b := 4) rfl rfl) (by decide) mi_X12_in lk_X12_82 rfl (Nat.le_of_ble_eq_true rfl) rfl rfl dX12_count_6 ?_
  intro v1 μ2 h3
  obtain ⟨rfl, rfl⟩ := h3
  refine JJ_r1 ?_
  refine JJ_if_ne (tgt := 15) dX12_count_9 (by decide) (fun c4 => ?_) (fun c4 => ?_)
  · skip
    refine JJ_iload_n dX12_count_15 rfl rfl ?_
    refine JJ_if_ne (tgt := 26) dX12_count_16 (by decide) (fun c5 => ?_) (fun c5 => ?_)
    · skip
      refine JJ_iload_n dX12_count_26 rfl rfl ?_
      refine JJ_iconst (v := 1) dX12_count_27 rfl ?_
      refine JJ_icmp_ne (tgt := 38) dX12_count_28 (by decide) (fun c6 => ?_) (fun c6 => ?_)
      · skip
        refine JJ_iload_n dX12_count_38 rfl rfl ?_
        refine JJ_iconst (v := 2) dX12_count_39 rfl ?_
        refine JJ_icmp_ne (tgt := 50) dX12_count_40 (by decide) (fun c7 => ?_) (fun c7 => ?_)
        · skip
          refine JJ_iload_n dX12_count_50 rfl rfl ?_
          refine JJ_iconst (v := 3) dX12_count_51 rfl ?_
          refine JJ_icmp_ne (tgt := 62) dX12_count_52 (by decide) (fun c8 => ?_) (fun c8 => ?_)
          · skip
            refine JJ_aload_n dX12_count_62 rfl rfl ?_
            refine JJ_geti (v := A.1 9 0) (cis := [12]) (k := 4) fa_X12_239 (by decide) hR.1 rfl (hN.1 4 (by decide)) hA.rul dX12_count_63 ?_
            refine JJ_iret dX12_count_66 rfl ?_
            exact ans_i (by unfold zr_count; rw [if_neg (fun z => z (b2_n.mp c4)), if_neg c5, if_neg c6, if_neg c7, if_neg c8])
          · skip
            refine JJ_aload_n dX12_count_55 rfl rfl ?_
            refine JJ_geti (v := A.1 12 0) (cis := [12]) (k := 6) fa_X12_121 (by decide) hR.1 rfl (hN.1 6 (by decide)) hA.tsz dX12_count_56 ?_
            refine JJ_goto (tgt := 66) dX12_count_59 (by decide) ?_
            refine JJ_iret dX12_count_66 rfl ?_
            exact ans_i (by unfold zr_count; rw [if_neg (fun z => z (b2_n.mp c4)), if_neg c5, if_neg c6, if_neg c7, if_pos c8])
        · skip
          refine JJ_aload_n dX12_count_43 rfl rfl ?_
          refine JJ_geti (v := A.1 10 0) (cis := [12]) (k := 3) fa_X12_76 (by decide) hR.1 rfl (hN.1 3 (by decide)) hA.tc dX12_count_44 ?_
          refine JJ_goto (tgt := 66) dX12_count_47 (by decide) ?_
          refine JJ_iret dX12_count_66 rfl ?_
          exact ans_i (by unfold zr_count; rw [if_neg (fun z => z (b2_n.mp c4)), if_neg c5, if_neg c6, if_pos c7])
      · skip
        refine JJ_aload_n dX12_count_31 rfl rfl ?_
        refine JJ_geti (v := A.1 4 0) (cis := [12]) (k := 11) fa_X12_109 (by decide) hR.1 rfl (hN.1 11 (by decide)) hA.c11 dX12_count_32 ?_
        refine JJ_goto (tgt := 66) dX12_count_35 (by decide) ?_
        refine JJ_iret dX12_count_66 rfl ?_
        exact ans_i (by unfold zr_count; rw [if_neg (fun z => z (b2_n.mp c4)), if_neg c5, if_pos c6])
    · skip
      refine JJ_aload_n dX12_count_19 rfl rfl ?_
      refine JJ_geti (v := A.1 8 0) (cis := [12]) (k := 15) fa_X12_79 (by decide) hR.1 rfl (hN.1 15 (by decide)) hA.cnt dX12_count_20 ?_
      refine JJ_goto (tgt := 66) dX12_count_23 (by decide) ?_
      refine JJ_iret dX12_count_66 rfl ?_
      exact ans_i (by unfold zr_count; rw [if_neg (fun z => z (b2_n.mp c4)), if_pos c5])
  · skip
    refine JJ_bipush (v := (-2)) dX12_count_12 rfl ?_
    refine JJ_iret dX12_count_14 rfl ?_
    exact ans_i (if_pos (fun z => b2_0.mp c4 z)).symm
set_option maxHeartbeats 4000000 in
set_option maxRecDepth 100000 in
theorem kr_over {x : Int32} : KK G sc yX12_over cX12_over 1 (some .int) 0 0 0 [.int x] (n, S, M, L, P) (ansI (s_ov x) (n, S, M, L, P)) := by
  refine KK_of2 [(0, .int x)] (by decide +kernel) (Nat.le_of_ble_eq_true rfl) rfl ?_
  refine JJ_iload_n dX12_over_0 rfl rfl ?_
  refine JJ_if_ne (tgt := 8) dX12_over_1 (by decide) (fun c1 => ?_) (fun c1 => ?_)
  · skip
    refine JJ_iload_n dX12_over_8 rfl rfl ?_
    refine JJ_iconst (v := 3) dX12_over_9 rfl ?_
    refine JJ_icmp_eq (tgt := 18) dX12_over_10 (by decide) (fun c2 => ?_) (fun c2 => ?_)
    · skip
      refine JJ_iconst (v := 1) dX12_over_18 rfl ?_
      refine JJ_goto (tgt := 32) dX12_over_19 (by decide) ?_
      refine JJ_iret dX12_over_32 rfl ?_
      exact ans_i ((if_neg c1).trans (if_pos (Or.inl c2))).symm
    · skip
      refine JJ_iload_n dX12_over_13 rfl rfl ?_
      refine JJ_iconst (v := 5) dX12_over_14 rfl ?_
      refine JJ_icmp_ne (tgt := 22) dX12_over_15 (by decide) (fun c3 => ?_) (fun c3 => ?_)
      · skip
        refine JJ_iload_n dX12_over_22 rfl rfl ?_
        refine JJ_iconst (v := 4) dX12_over_23 rfl ?_
        refine JJ_icmp_ne (tgt := 31) dX12_over_24 (by decide) (fun c4 => ?_) (fun c4 => ?_)
        · skip
          refine JJ_iconst (v := 0) dX12_over_31 rfl ?_
          refine JJ_iret dX12_over_32 rfl ?_
          exact ans_i ((if_neg c1).trans ((if_neg (fun z => z.elim c2 c3)).trans (if_neg c4))).symm
        · skip
          refine JJ_iconst (v := 2) dX12_over_27 rfl ?_
          refine JJ_goto (tgt := 32) dX12_over_28 (by decide) ?_
          refine JJ_iret dX12_over_32 rfl ?_
          exact ans_i ((if_neg c1).trans ((if_neg (fun z => z.elim c2 c3)).trans (if_pos c4))).symm
      · skip
        refine JJ_iconst (v := 1) dX12_over_18 rfl ?_
        refine JJ_goto (tgt := 32) dX12_over_19 (by decide) ?_
        refine JJ_iret dX12_over_32 rfl ?_
        exact ans_i ((if_neg c1).trans (if_pos (Or.inr c3))).symm
  · skip
    refine JJ_iconst (v := (-1)) dX12_over_4 rfl ?_
    refine JJ_goto (tgt := 32) dX12_over_5 (by decide) ?_
    refine JJ_iret dX12_over_32 rfl ?_
    exact ans_i (if_pos c1).symm
set_option maxHeartbeats 4000000 in
set_option maxRecDepth 100000 in
theorem kr_taken {s k : Int32} {A : Abs} (hA : rABS o M A) (hg2 : RNG2 A) (hR : RWF o S P) (hN : HSR o sc) : KK G sc yX12_taken cX12_taken 4 (some .int) 4 0 0 [.ref o, .int s, .int k] (n, S, M, L, P) (ansI (zr_taken A s k) (n, S, M, L, P)) := by
  have hg : RNG A := hg2.1
  refine KK_of2 [(0, .ref o), (1, .int s), (2, .int k)] (by decide +kernel) (Nat.le_of_ble_eq_true rfl) rfl ?_
  refine JJ_iload_n dX12_taken_0 rfl rfl ?_
  refine JJ_i2l dX12_taken_1 ?_
  refine JJ_lconst (v := 0) dX12_taken_2 rfl ?_
  refine JJ_ldc2 (v := 5) dX12_taken_3 tb_1099 ?_
  refine JJ_callS (rest := []) (kr_in32 (v := k) (lo := 0) (hi := 5) (a := 0) (b := 5) rfl rfl) (by decide) mi_X12_in lk_X12_82 rfl (Nat.le_of_ble_eq_true rfl) rfl rfl dX12_taken_6 ?_
  intro v1 μ2 h3
  obtain ⟨rfl, rfl⟩ := h3
  refine JJ_r1 ?_
  refine JJ_if_ne (tgt := 15) dX12_taken_9 (by decide) (fun c4 => ?_) (fun c4 => ?_)
  · skip
    refine JJ_aload_n dX12_taken_15 rfl rfl ?_
    refine JJ_iload_n dX12_taken_16 rfl rfl ?_
    refine JJ_callV (rest := []) hR.1 rfl rfl (kr_isStroke (v := s) hR hN) (by decide) mi_X12_isStroke lk_X12_98 rfl (Nat.le_of_ble_eq_true rfl) rfl rfl dX12_taken_17 ?_
    intro v5 μ6 h7
    obtain ⟨rfl, rfl⟩ := h7
    refine JJ_r1 ?_
    refine JJ_eqi (x2 := b2 (isSk A s)) (b2_c (by show _ ↔ (0 ≤ _ ∧ _ ≤ (A.1 8 0 - 1).toInt); rw [hA.cnt])) ?_
    refine JJ_if_ne (tgt := 26) dX12_taken_20 (by decide) (fun c8 => ?_) (fun c8 => ?_)
    · skip
      obtain ⟨q, hq6, hqc, rfl⟩ := sk_of hg (b2_n.mp c8)
      obtain ⟨k, hk5, rfl⟩ := n_of (m := 5) (by decide) (b2_n.mp c4)
      have e0 : zr_taken A (nI q) (nI k) = if s_under (A.1 5 q) (nI k) = true then A.1 6 q else -13 := by
        unfold zr_taken
        rw [if_neg (fun z => z (b2_n.mp c4)), if_neg (fun z => z (b2_n.mp c8)), show i2n (nI q) = q from nI_clamp (by omega)]
      obtain ⟨x, hx5, hx⟩ := n_of (m := 5) (by decide) (hg2.2.2.2.1 q hqc).1
      rw [hx] at e0
      have hxM : M (o + 8) q = nI x := (hA.c8 hq6).trans hx
      have hd : k = 0 ∨ k = 1 ∨ k = 2 ∨ k = 3 ∨ k = 4 ∨ k = 5 := by omega
      have hdx : x = 0 ∨ x = 1 ∨ x = 2 ∨ x = 3 ∨ x = 4 ∨ x = 5 := by omega
      rcases hd with rfl | rfl | rfl | rfl | rfl | rfl <;> skip
      · skip
        rcases hdx with rfl | rfl | rfl | rfl | rfl | rfl <;> skip
        · skip
          refine JJ_aload_n dX12_taken_26 rfl rfl ?_
          refine JJ_getr (q := o + 8) (cis := [12]) (k := 12) fa_X12_35 (by decide) hR.1 rfl (hR.2 (12, 8, 20, 6) (by decide)).1 dX12_taken_27 ?_
          refine JJ_iload_n dX12_taken_30 rfl rfl ?_
          refine JJ_ialdX (v := 0) (hR.2 (12, 8, 20, 6) (by decide)).2 (IX_nI (by omega) (by omega)) (hN.2.1 8 _ (by decide) (by decide)) hxM dX12_taken_31 ?_
          refine JJ_istore_n (lv' := [(3, .int 0), (0, .ref o), (1, .int (nI q)), (2, .int 0)]) dX12_taken_32 rfl (by decide) rfl ?_
          refine JJ_iload_n dX12_taken_33 rfl rfl ?_
          refine JJ_iconst (v := (-1)) dX12_taken_34 rfl ?_
          refine JJ_icmp_eq (tgt := 51) dX12_taken_35 (by decide) (fun c9 => absurd c9 (by decide)) (fun _ => ?_)
          refine JJ_iload_n dX12_taken_38 rfl rfl ?_
          refine JJ_iload_n dX12_taken_39 rfl rfl ?_
          refine JJ_icmp_eq (tgt := 51) dX12_taken_40 (by decide) (fun _ => ?_) (fun c10 => absurd (by decide) c10)
          refine JJ_iload_n dX12_taken_51 rfl rfl ?_
          refine JJ_iload_n dX12_taken_52 rfl rfl ?_
          refine JJ_icmp_ne (tgt := 65) dX12_taken_53 (by decide) (fun c11 => absurd (by decide) c11) (fun _ => ?_)
          refine JJ_aload_n dX12_taken_56 rfl rfl ?_
          refine JJ_getr (q := o + 9) (cis := [12]) (k := 13) fa_X12_38 (by decide) hR.1 rfl (hR.2 (13, 9, 20, 6) (by decide)).1 dX12_taken_57 ?_
          refine JJ_iload_n dX12_taken_60 rfl rfl ?_
          refine JJ_ialdX (v := A.1 6 q) (hR.2 (13, 9, 20, 6) (by decide)).2 (IX_nI (by omega) (by omega)) (hN.2.1 9 _ (by decide) (by decide)) (hA.c9 hq6) dX12_taken_61 ?_
          refine JJ_goto (tgt := 67) dX12_taken_62 (by decide) ?_
          refine JJ_iret dX12_taken_67 rfl ?_
          exact ans_i (by rw [e0, if_pos (by decide)])
        · skip
          refine JJ_aload_n dX12_taken_26 rfl rfl ?_
          refine JJ_getr (q := o + 8) (cis := [12]) (k := 12) fa_X12_35 (by decide) hR.1 rfl (hR.2 (12, 8, 20, 6) (by decide)).1 dX12_taken_27 ?_
          refine JJ_iload_n dX12_taken_30 rfl rfl ?_
          refine JJ_ialdX (v := 1) (hR.2 (12, 8, 20, 6) (by decide)).2 (IX_nI (by omega) (by omega)) (hN.2.1 8 _ (by decide) (by decide)) hxM dX12_taken_31 ?_
          refine JJ_istore_n (lv' := [(3, .int 1), (0, .ref o), (1, .int (nI q)), (2, .int 0)]) dX12_taken_32 rfl (by decide) rfl ?_
          refine JJ_iload_n dX12_taken_33 rfl rfl ?_
          refine JJ_iconst (v := (-1)) dX12_taken_34 rfl ?_
          refine JJ_icmp_eq (tgt := 51) dX12_taken_35 (by decide) (fun c12 => absurd c12 (by decide)) (fun _ => ?_)
          refine JJ_iload_n dX12_taken_38 rfl rfl ?_
          refine JJ_iload_n dX12_taken_39 rfl rfl ?_
          refine JJ_icmp_eq (tgt := 51) dX12_taken_40 (by decide) (fun c13 => absurd c13 (by decide)) (fun _ => ?_)
          refine JJ_iload_n dX12_taken_43 rfl rfl ?_
          refine JJ_callS (rest := []) (kr_over (x := 1)) (by decide) mi_X12_over lk_X12_375 rfl (Nat.le_of_ble_eq_true rfl) rfl rfl dX12_taken_44 ?_
          intro v14 μ15 h16
          obtain ⟨rfl, rfl⟩ := h16
          refine JJ_r1 ?_
          refine JJ_eqi (x2 := 0) (by decide) ?_
          refine JJ_istore_n (lv' := [(3, .int 0), (0, .ref o), (1, .int (nI q)), (2, .int 0)]) dX12_taken_47 rfl (by decide) rfl ?_
          refine JJ_goto (tgt := 33) dX12_taken_48 (by decide) ?_
          refine JJ_iload_n dX12_taken_33 rfl rfl ?_
          refine JJ_iconst (v := (-1)) dX12_taken_34 rfl ?_
          refine JJ_icmp_eq (tgt := 51) dX12_taken_35 (by decide) (fun c17 => absurd c17 (by decide)) (fun _ => ?_)
          refine JJ_iload_n dX12_taken_38 rfl rfl ?_
          refine JJ_iload_n dX12_taken_39 rfl rfl ?_
          refine JJ_icmp_eq (tgt := 51) dX12_taken_40 (by decide) (fun _ => ?_) (fun c18 => absurd (by decide) c18)
          refine JJ_iload_n dX12_taken_51 rfl rfl ?_
          refine JJ_iload_n dX12_taken_52 rfl rfl ?_
          refine JJ_icmp_ne (tgt := 65) dX12_taken_53 (by decide) (fun c19 => absurd (by decide) c19) (fun _ => ?_)
          refine JJ_aload_n dX12_taken_56 rfl rfl ?_
          refine JJ_getr (q := o + 9) (cis := [12]) (k := 13) fa_X12_38 (by decide) hR.1 rfl (hR.2 (13, 9, 20, 6) (by decide)).1 dX12_taken_57 ?_
          refine JJ_iload_n dX12_taken_60 rfl rfl ?_
          refine JJ_ialdX (v := A.1 6 q) (hR.2 (13, 9, 20, 6) (by decide)).2 (IX_nI (by omega) (by omega)) (hN.2.1 9 _ (by decide) (by decide)) (hA.c9 hq6) dX12_taken_61 ?_
          refine JJ_goto (tgt := 67) dX12_taken_62 (by decide) ?_
          refine JJ_iret dX12_taken_67 rfl ?_
          exact ans_i (by rw [e0, if_pos (by decide)])
        · skip
          refine JJ_aload_n dX12_taken_26 rfl rfl ?_
          refine JJ_getr (q := o + 8) (cis := [12]) (k := 12) fa_X12_35 (by decide) hR.1 rfl (hR.2 (12, 8, 20, 6) (by decide)).1 dX12_taken_27 ?_
          refine JJ_iload_n dX12_taken_30 rfl rfl ?_
          refine JJ_ialdX (v := 2) (hR.2 (12, 8, 20, 6) (by decide)).2 (IX_nI (by omega) (by omega)) (hN.2.1 8 _ (by decide) (by decide)) hxM dX12_taken_31 ?_
          refine JJ_istore_n (lv' := [(3, .int 2), (0, .ref o), (1, .int (nI q)), (2, .int 0)]) dX12_taken_32 rfl (by decide) rfl ?_
          refine JJ_iload_n dX12_taken_33 rfl rfl ?_
          refine JJ_iconst (v := (-1)) dX12_taken_34 rfl ?_
          refine JJ_icmp_eq (tgt := 51) dX12_taken_35 (by decide) (fun c20 => absurd c20 (by decide)) (fun _ => ?_)
          refine JJ_iload_n dX12_taken_38 rfl rfl ?_
          refine JJ_iload_n dX12_taken_39 rfl rfl ?_
          refine JJ_icmp_eq (tgt := 51) dX12_taken_40 (by decide) (fun c21 => absurd c21 (by decide)) (fun _ => ?_)
          refine JJ_iload_n dX12_taken_43 rfl rfl ?_
          refine JJ_callS (rest := []) (kr_over (x := 2)) (by decide) mi_X12_over lk_X12_375 rfl (Nat.le_of_ble_eq_true rfl) rfl rfl dX12_taken_44 ?_
          intro v22 μ23 h24
          obtain ⟨rfl, rfl⟩ := h24
          refine JJ_r1 ?_
          refine JJ_eqi (x2 := 0) (by decide) ?_
          refine JJ_istore_n (lv' := [(3, .int 0), (0, .ref o), (1, .int (nI q)), (2, .int 0)]) dX12_taken_47 rfl (by decide) rfl ?_
          refine JJ_goto (tgt := 33) dX12_taken_48 (by decide) ?_
          refine JJ_iload_n dX12_taken_33 rfl rfl ?_
          refine JJ_iconst (v := (-1)) dX12_taken_34 rfl ?_
          refine JJ_icmp_eq (tgt := 51) dX12_taken_35 (by decide) (fun c25 => absurd c25 (by decide)) (fun _ => ?_)
          refine JJ_iload_n dX12_taken_38 rfl rfl ?_
          refine JJ_iload_n dX12_taken_39 rfl rfl ?_
          refine JJ_icmp_eq (tgt := 51) dX12_taken_40 (by decide) (fun _ => ?_) (fun c26 => absurd (by decide) c26)
          refine JJ_iload_n dX12_taken_51 rfl rfl ?_
          refine JJ_iload_n dX12_taken_52 rfl rfl ?_
          refine JJ_icmp_ne (tgt := 65) dX12_taken_53 (by decide) (fun c27 => absurd (by decide) c27) (fun _ => ?_)
          refine JJ_aload_n dX12_taken_56 rfl rfl ?_
          refine JJ_getr (q := o + 9) (cis := [12]) (k := 13) fa_X12_38 (by decide) hR.1 rfl (hR.2 (13, 9, 20, 6) (by decide)).1 dX12_taken_57 ?_
          refine JJ_iload_n dX12_taken_60 rfl rfl ?_
          refine JJ_ialdX (v := A.1 6 q) (hR.2 (13, 9, 20, 6) (by decide)).2 (IX_nI (by omega) (by omega)) (hN.2.1 9 _ (by decide) (by decide)) (hA.c9 hq6) dX12_taken_61 ?_
          refine JJ_goto (tgt := 67) dX12_taken_62 (by decide) ?_
          refine JJ_iret dX12_taken_67 rfl ?_
          exact ans_i (by rw [e0, if_pos (by decide)])
        · skip
          refine JJ_aload_n dX12_taken_26 rfl rfl ?_
          refine JJ_getr (q := o + 8) (cis := [12]) (k := 12) fa_X12_35 (by decide) hR.1 rfl (hR.2 (12, 8, 20, 6) (by decide)).1 dX12_taken_27 ?_
          refine JJ_iload_n dX12_taken_30 rfl rfl ?_
          refine JJ_ialdX (v := 3) (hR.2 (12, 8, 20, 6) (by decide)).2 (IX_nI (by omega) (by omega)) (hN.2.1 8 _ (by decide) (by decide)) hxM dX12_taken_31 ?_
          refine JJ_istore_n (lv' := [(3, .int 3), (0, .ref o), (1, .int (nI q)), (2, .int 0)]) dX12_taken_32 rfl (by decide) rfl ?_
          refine JJ_iload_n dX12_taken_33 rfl rfl ?_
          refine JJ_iconst (v := (-1)) dX12_taken_34 rfl ?_
          refine JJ_icmp_eq (tgt := 51) dX12_taken_35 (by decide) (fun c28 => absurd c28 (by decide)) (fun _ => ?_)
          refine JJ_iload_n dX12_taken_38 rfl rfl ?_
          refine JJ_iload_n dX12_taken_39 rfl rfl ?_
          refine JJ_icmp_eq (tgt := 51) dX12_taken_40 (by decide) (fun c29 => absurd c29 (by decide)) (fun _ => ?_)
          refine JJ_iload_n dX12_taken_43 rfl rfl ?_
          refine JJ_callS (rest := []) (kr_over (x := 3)) (by decide) mi_X12_over lk_X12_375 rfl (Nat.le_of_ble_eq_true rfl) rfl rfl dX12_taken_44 ?_
          intro v30 μ31 h32
          obtain ⟨rfl, rfl⟩ := h32
          refine JJ_r1 ?_
          refine JJ_eqi (x2 := 1) (by decide) ?_
          refine JJ_istore_n (lv' := [(3, .int 1), (0, .ref o), (1, .int (nI q)), (2, .int 0)]) dX12_taken_47 rfl (by decide) rfl ?_
          refine JJ_goto (tgt := 33) dX12_taken_48 (by decide) ?_
          refine JJ_iload_n dX12_taken_33 rfl rfl ?_
          refine JJ_iconst (v := (-1)) dX12_taken_34 rfl ?_
          refine JJ_icmp_eq (tgt := 51) dX12_taken_35 (by decide) (fun c33 => absurd c33 (by decide)) (fun _ => ?_)
          refine JJ_iload_n dX12_taken_38 rfl rfl ?_
          refine JJ_iload_n dX12_taken_39 rfl rfl ?_
          refine JJ_icmp_eq (tgt := 51) dX12_taken_40 (by decide) (fun c34 => absurd c34 (by decide)) (fun _ => ?_)
          refine JJ_iload_n dX12_taken_43 rfl rfl ?_
          refine JJ_callS (rest := []) (kr_over (x := 1)) (by decide) mi_X12_over lk_X12_375 rfl (Nat.le_of_ble_eq_true rfl) rfl rfl dX12_taken_44 ?_
          intro v35 μ36 h37
          obtain ⟨rfl, rfl⟩ := h37
          refine JJ_r1 ?_
          refine JJ_eqi (x2 := 0) (by decide) ?_
          refine JJ_istore_n (lv' := [(3, .int 0), (0, .ref o), (1, .int (nI q)), (2, .int 0)]) dX12_taken_47 rfl (by decide) rfl ?_
          refine JJ_goto (tgt := 33) dX12_taken_48 (by decide) ?_
          refine JJ_iload_n dX12_taken_33 rfl rfl ?_
          refine JJ_iconst (v := (-1)) dX12_taken_34 rfl ?_
          refine JJ_icmp_eq (tgt := 51) dX12_taken_35 (by decide) (fun c38 => absurd c38 (by decide)) (fun _ => ?_)
          refine JJ_iload_n dX12_taken_38 rfl rfl ?_
          refine JJ_iload_n dX12_taken_39 rfl rfl ?_
          refine JJ_icmp_eq (tgt := 51) dX12_taken_40 (by decide) (fun _ => ?_) (fun c39 => absurd (by decide) c39)
          refine JJ_iload_n dX12_taken_51 rfl rfl ?_
          refine JJ_iload_n dX12_taken_52 rfl rfl ?_
          refine JJ_icmp_ne (tgt := 65) dX12_taken_53 (by decide) (fun c40 => absurd (by decide) c40) (fun _ => ?_)
          refine JJ_aload_n dX12_taken_56 rfl rfl ?_
          refine JJ_getr (q := o + 9) (cis := [12]) (k := 13) fa_X12_38 (by decide) hR.1 rfl (hR.2 (13, 9, 20, 6) (by decide)).1 dX12_taken_57 ?_
          refine JJ_iload_n dX12_taken_60 rfl rfl ?_
          refine JJ_ialdX (v := A.1 6 q) (hR.2 (13, 9, 20, 6) (by decide)).2 (IX_nI (by omega) (by omega)) (hN.2.1 9 _ (by decide) (by decide)) (hA.c9 hq6) dX12_taken_61 ?_
          refine JJ_goto (tgt := 67) dX12_taken_62 (by decide) ?_
          refine JJ_iret dX12_taken_67 rfl ?_
          exact ans_i (by rw [e0, if_pos (by decide)])
        · skip
          refine JJ_aload_n dX12_taken_26 rfl rfl ?_
          refine JJ_getr (q := o + 8) (cis := [12]) (k := 12) fa_X12_35 (by decide) hR.1 rfl (hR.2 (12, 8, 20, 6) (by decide)).1 dX12_taken_27 ?_
          refine JJ_iload_n dX12_taken_30 rfl rfl ?_
          refine JJ_ialdX (v := 4) (hR.2 (12, 8, 20, 6) (by decide)).2 (IX_nI (by omega) (by omega)) (hN.2.1 8 _ (by decide) (by decide)) hxM dX12_taken_31 ?_
          refine JJ_istore_n (lv' := [(3, .int 4), (0, .ref o), (1, .int (nI q)), (2, .int 0)]) dX12_taken_32 rfl (by decide) rfl ?_
          refine JJ_iload_n dX12_taken_33 rfl rfl ?_
          refine JJ_iconst (v := (-1)) dX12_taken_34 rfl ?_
          refine JJ_icmp_eq (tgt := 51) dX12_taken_35 (by decide) (fun c41 => absurd c41 (by decide)) (fun _ => ?_)
          refine JJ_iload_n dX12_taken_38 rfl rfl ?_
          refine JJ_iload_n dX12_taken_39 rfl rfl ?_
          refine JJ_icmp_eq (tgt := 51) dX12_taken_40 (by decide) (fun c42 => absurd c42 (by decide)) (fun _ => ?_)
          refine JJ_iload_n dX12_taken_43 rfl rfl ?_
          refine JJ_callS (rest := []) (kr_over (x := 4)) (by decide) mi_X12_over lk_X12_375 rfl (Nat.le_of_ble_eq_true rfl) rfl rfl dX12_taken_44 ?_
          intro v43 μ44 h45
          obtain ⟨rfl, rfl⟩ := h45
          refine JJ_r1 ?_
          refine JJ_eqi (x2 := 2) (by decide) ?_
          refine JJ_istore_n (lv' := [(3, .int 2), (0, .ref o), (1, .int (nI q)), (2, .int 0)]) dX12_taken_47 rfl (by decide) rfl ?_
          refine JJ_goto (tgt := 33) dX12_taken_48 (by decide) ?_
          refine JJ_iload_n dX12_taken_33 rfl rfl ?_
          refine JJ_iconst (v := (-1)) dX12_taken_34 rfl ?_
          refine JJ_icmp_eq (tgt := 51) dX12_taken_35 (by decide) (fun c46 => absurd c46 (by decide)) (fun _ => ?_)
          refine JJ_iload_n dX12_taken_38 rfl rfl ?_
          refine JJ_iload_n dX12_taken_39 rfl rfl ?_
          refine JJ_icmp_eq (tgt := 51) dX12_taken_40 (by decide) (fun c47 => absurd c47 (by decide)) (fun _ => ?_)
          refine JJ_iload_n dX12_taken_43 rfl rfl ?_
          refine JJ_callS (rest := []) (kr_over (x := 2)) (by decide) mi_X12_over lk_X12_375 rfl (Nat.le_of_ble_eq_true rfl) rfl rfl dX12_taken_44 ?_
          intro v48 μ49 h50
          obtain ⟨rfl, rfl⟩ := h50
          refine JJ_r1 ?_
          refine JJ_eqi (x2 := 0) (by decide) ?_
          refine JJ_istore_n (lv' := [(3, .int 0), (0, .ref o), (1, .int (nI q)), (2, .int 0)]) dX12_taken_47 rfl (by decide) rfl ?_
          refine JJ_goto (tgt := 33) dX12_taken_48 (by decide) ?_
          refine JJ_iload_n dX12_taken_33 rfl rfl ?_
          refine JJ_iconst (v := (-1)) dX12_taken_34 rfl ?_
          refine JJ_icmp_eq (tgt := 51) dX12_taken_35 (by decide) (fun c51 => absurd c51 (by decide)) (fun _ => ?_)
          refine JJ_iload_n dX12_taken_38 rfl rfl ?_
          refine JJ_iload_n dX12_taken_39 rfl rfl ?_
          refine JJ_icmp_eq (tgt := 51) dX12_taken_40 (by decide) (fun _ => ?_) (fun c52 => absurd (by decide) c52)
          refine JJ_iload_n dX12_taken_51 rfl rfl ?_
          refine JJ_iload_n dX12_taken_52 rfl rfl ?_
          refine JJ_icmp_ne (tgt := 65) dX12_taken_53 (by decide) (fun c53 => absurd (by decide) c53) (fun _ => ?_)
          refine JJ_aload_n dX12_taken_56 rfl rfl ?_
          refine JJ_getr (q := o + 9) (cis := [12]) (k := 13) fa_X12_38 (by decide) hR.1 rfl (hR.2 (13, 9, 20, 6) (by decide)).1 dX12_taken_57 ?_
          refine JJ_iload_n dX12_taken_60 rfl rfl ?_
          refine JJ_ialdX (v := A.1 6 q) (hR.2 (13, 9, 20, 6) (by decide)).2 (IX_nI (by omega) (by omega)) (hN.2.1 9 _ (by decide) (by decide)) (hA.c9 hq6) dX12_taken_61 ?_
          refine JJ_goto (tgt := 67) dX12_taken_62 (by decide) ?_
          refine JJ_iret dX12_taken_67 rfl ?_
          exact ans_i (by rw [e0, if_pos (by decide)])
        · skip
          refine JJ_aload_n dX12_taken_26 rfl rfl ?_
          refine JJ_getr (q := o + 8) (cis := [12]) (k := 12) fa_X12_35 (by decide) hR.1 rfl (hR.2 (12, 8, 20, 6) (by decide)).1 dX12_taken_27 ?_
          refine JJ_iload_n dX12_taken_30 rfl rfl ?_
          refine JJ_ialdX (v := 5) (hR.2 (12, 8, 20, 6) (by decide)).2 (IX_nI (by omega) (by omega)) (hN.2.1 8 _ (by decide) (by decide)) hxM dX12_taken_31 ?_
          refine JJ_istore_n (lv' := [(3, .int 5), (0, .ref o), (1, .int (nI q)), (2, .int 0)]) dX12_taken_32 rfl (by decide) rfl ?_
          refine JJ_iload_n dX12_taken_33 rfl rfl ?_
          refine JJ_iconst (v := (-1)) dX12_taken_34 rfl ?_
          refine JJ_icmp_eq (tgt := 51) dX12_taken_35 (by decide) (fun c54 => absurd c54 (by decide)) (fun _ => ?_)
          refine JJ_iload_n dX12_taken_38 rfl rfl ?_
          refine JJ_iload_n dX12_taken_39 rfl rfl ?_
          refine JJ_icmp_eq (tgt := 51) dX12_taken_40 (by decide) (fun c55 => absurd c55 (by decide)) (fun _ => ?_)
          refine JJ_iload_n dX12_taken_43 rfl rfl ?_
          refine JJ_callS (rest := []) (kr_over (x := 5)) (by decide) mi_X12_over lk_X12_375 rfl (Nat.le_of_ble_eq_true rfl) rfl rfl dX12_taken_44 ?_
          intro v56 μ57 h58
          obtain ⟨rfl, rfl⟩ := h58
          refine JJ_r1 ?_
          refine JJ_eqi (x2 := 1) (by decide) ?_
          refine JJ_istore_n (lv' := [(3, .int 1), (0, .ref o), (1, .int (nI q)), (2, .int 0)]) dX12_taken_47 rfl (by decide) rfl ?_
          refine JJ_goto (tgt := 33) dX12_taken_48 (by decide) ?_
          refine JJ_iload_n dX12_taken_33 rfl rfl ?_
          refine JJ_iconst (v := (-1)) dX12_taken_34 rfl ?_
          refine JJ_icmp_eq (tgt := 51) dX12_taken_35 (by decide) (fun c59 => absurd c59 (by decide)) (fun _ => ?_)
          refine JJ_iload_n dX12_taken_38 rfl rfl ?_
          refine JJ_iload_n dX12_taken_39 rfl rfl ?_
          refine JJ_icmp_eq (tgt := 51) dX12_taken_40 (by decide) (fun c60 => absurd c60 (by decide)) (fun _ => ?_)
          refine JJ_iload_n dX12_taken_43 rfl rfl ?_
          refine JJ_callS (rest := []) (kr_over (x := 1)) (by decide) mi_X12_over lk_X12_375 rfl (Nat.le_of_ble_eq_true rfl) rfl rfl dX12_taken_44 ?_
          intro v61 μ62 h63
          obtain ⟨rfl, rfl⟩ := h63
          refine JJ_r1 ?_
          refine JJ_eqi (x2 := 0) (by decide) ?_
          refine JJ_istore_n (lv' := [(3, .int 0), (0, .ref o), (1, .int (nI q)), (2, .int 0)]) dX12_taken_47 rfl (by decide) rfl ?_
          refine JJ_goto (tgt := 33) dX12_taken_48 (by decide) ?_
          refine JJ_iload_n dX12_taken_33 rfl rfl ?_
          refine JJ_iconst (v := (-1)) dX12_taken_34 rfl ?_
          refine JJ_icmp_eq (tgt := 51) dX12_taken_35 (by decide) (fun c64 => absurd c64 (by decide)) (fun _ => ?_)
          refine JJ_iload_n dX12_taken_38 rfl rfl ?_
          refine JJ_iload_n dX12_taken_39 rfl rfl ?_
          refine JJ_icmp_eq (tgt := 51) dX12_taken_40 (by decide) (fun _ => ?_) (fun c65 => absurd (by decide) c65)
          refine JJ_iload_n dX12_taken_51 rfl rfl ?_
          refine JJ_iload_n dX12_taken_52 rfl rfl ?_
          refine JJ_icmp_ne (tgt := 65) dX12_taken_53 (by decide) (fun c66 => absurd (by decide) c66) (fun _ => ?_)
          refine JJ_aload_n dX12_taken_56 rfl rfl ?_
          refine JJ_getr (q := o + 9) (cis := [12]) (k := 13) fa_X12_38 (by decide) hR.1 rfl (hR.2 (13, 9, 20, 6) (by decide)).1 dX12_taken_57 ?_
          refine JJ_iload_n dX12_taken_60 rfl rfl ?_
          refine JJ_ialdX (v := A.1 6 q) (hR.2 (13, 9, 20, 6) (by decide)).2 (IX_nI (by omega) (by omega)) (hN.2.1 9 _ (by decide) (by decide)) (hA.c9 hq6) dX12_taken_61 ?_
          refine JJ_goto (tgt := 67) dX12_taken_62 (by decide) ?_
          refine JJ_iret dX12_taken_67 rfl ?_
          exact ans_i (by rw [e0, if_pos (by decide)])
      · skip
        rcases hdx with rfl | rfl | rfl | rfl | rfl | rfl <;> skip
        · skip
          refine JJ_aload_n dX12_taken_26 rfl rfl ?_
          refine JJ_getr (q := o + 8) (cis := [12]) (k := 12) fa_X12_35 (by decide) hR.1 rfl (hR.2 (12, 8, 20, 6) (by decide)).1 dX12_taken_27 ?_
          refine JJ_iload_n dX12_taken_30 rfl rfl ?_
          refine JJ_ialdX (v := 0) (hR.2 (12, 8, 20, 6) (by decide)).2 (IX_nI (by omega) (by omega)) (hN.2.1 8 _ (by decide) (by decide)) hxM dX12_taken_31 ?_
          refine JJ_istore_n (lv' := [(3, .int 0), (0, .ref o), (1, .int (nI q)), (2, .int 1)]) dX12_taken_32 rfl (by decide) rfl ?_
          refine JJ_iload_n dX12_taken_33 rfl rfl ?_
          refine JJ_iconst (v := (-1)) dX12_taken_34 rfl ?_
          refine JJ_icmp_eq (tgt := 51) dX12_taken_35 (by decide) (fun c67 => absurd c67 (by decide)) (fun _ => ?_)
          refine JJ_iload_n dX12_taken_38 rfl rfl ?_
          refine JJ_iload_n dX12_taken_39 rfl rfl ?_
          refine JJ_icmp_eq (tgt := 51) dX12_taken_40 (by decide) (fun c68 => absurd c68 (by decide)) (fun _ => ?_)
          refine JJ_iload_n dX12_taken_43 rfl rfl ?_
          refine JJ_callS (rest := []) (kr_over (x := 0)) (by decide) mi_X12_over lk_X12_375 rfl (Nat.le_of_ble_eq_true rfl) rfl rfl dX12_taken_44 ?_
          intro v69 μ70 h71
          obtain ⟨rfl, rfl⟩ := h71
          refine JJ_r1 ?_
          refine JJ_eqi (x2 := (-1)) (by decide) ?_
          refine JJ_istore_n (lv' := [(3, .int ((-1))), (0, .ref o), (1, .int (nI q)), (2, .int 1)]) dX12_taken_47 rfl (by decide) rfl ?_
          refine JJ_goto (tgt := 33) dX12_taken_48 (by decide) ?_
          refine JJ_iload_n dX12_taken_33 rfl rfl ?_
          refine JJ_iconst (v := (-1)) dX12_taken_34 rfl ?_
          refine JJ_icmp_eq (tgt := 51) dX12_taken_35 (by decide) (fun _ => ?_) (fun c72 => absurd (by decide) c72)
          refine JJ_iload_n dX12_taken_51 rfl rfl ?_
          refine JJ_iload_n dX12_taken_52 rfl rfl ?_
          refine JJ_icmp_ne (tgt := 65) dX12_taken_53 (by decide) (fun _ => ?_) (fun c73 => absurd c73 (by decide))
          refine JJ_bipush (v := (-13)) dX12_taken_65 rfl ?_
          refine JJ_iret dX12_taken_67 rfl ?_
          exact ans_i (by rw [e0, if_neg (by decide)])
        · skip
          refine JJ_aload_n dX12_taken_26 rfl rfl ?_
          refine JJ_getr (q := o + 8) (cis := [12]) (k := 12) fa_X12_35 (by decide) hR.1 rfl (hR.2 (12, 8, 20, 6) (by decide)).1 dX12_taken_27 ?_
          refine JJ_iload_n dX12_taken_30 rfl rfl ?_
          refine JJ_ialdX (v := 1) (hR.2 (12, 8, 20, 6) (by decide)).2 (IX_nI (by omega) (by omega)) (hN.2.1 8 _ (by decide) (by decide)) hxM dX12_taken_31 ?_
          refine JJ_istore_n (lv' := [(3, .int 1), (0, .ref o), (1, .int (nI q)), (2, .int 1)]) dX12_taken_32 rfl (by decide) rfl ?_
          refine JJ_iload_n dX12_taken_33 rfl rfl ?_
          refine JJ_iconst (v := (-1)) dX12_taken_34 rfl ?_
          refine JJ_icmp_eq (tgt := 51) dX12_taken_35 (by decide) (fun c74 => absurd c74 (by decide)) (fun _ => ?_)
          refine JJ_iload_n dX12_taken_38 rfl rfl ?_
          refine JJ_iload_n dX12_taken_39 rfl rfl ?_
          refine JJ_icmp_eq (tgt := 51) dX12_taken_40 (by decide) (fun _ => ?_) (fun c75 => absurd (by decide) c75)
          refine JJ_iload_n dX12_taken_51 rfl rfl ?_
          refine JJ_iload_n dX12_taken_52 rfl rfl ?_
          refine JJ_icmp_ne (tgt := 65) dX12_taken_53 (by decide) (fun c76 => absurd (by decide) c76) (fun _ => ?_)
          refine JJ_aload_n dX12_taken_56 rfl rfl ?_
          refine JJ_getr (q := o + 9) (cis := [12]) (k := 13) fa_X12_38 (by decide) hR.1 rfl (hR.2 (13, 9, 20, 6) (by decide)).1 dX12_taken_57 ?_
          refine JJ_iload_n dX12_taken_60 rfl rfl ?_
          refine JJ_ialdX (v := A.1 6 q) (hR.2 (13, 9, 20, 6) (by decide)).2 (IX_nI (by omega) (by omega)) (hN.2.1 9 _ (by decide) (by decide)) (hA.c9 hq6) dX12_taken_61 ?_
          refine JJ_goto (tgt := 67) dX12_taken_62 (by decide) ?_
          refine JJ_iret dX12_taken_67 rfl ?_
          exact ans_i (by rw [e0, if_pos (by decide)])
        · skip
          refine JJ_aload_n dX12_taken_26 rfl rfl ?_
          refine JJ_getr (q := o + 8) (cis := [12]) (k := 12) fa_X12_35 (by decide) hR.1 rfl (hR.2 (12, 8, 20, 6) (by decide)).1 dX12_taken_27 ?_
          refine JJ_iload_n dX12_taken_30 rfl rfl ?_
          refine JJ_ialdX (v := 2) (hR.2 (12, 8, 20, 6) (by decide)).2 (IX_nI (by omega) (by omega)) (hN.2.1 8 _ (by decide) (by decide)) hxM dX12_taken_31 ?_
          refine JJ_istore_n (lv' := [(3, .int 2), (0, .ref o), (1, .int (nI q)), (2, .int 1)]) dX12_taken_32 rfl (by decide) rfl ?_
          refine JJ_iload_n dX12_taken_33 rfl rfl ?_
          refine JJ_iconst (v := (-1)) dX12_taken_34 rfl ?_
          refine JJ_icmp_eq (tgt := 51) dX12_taken_35 (by decide) (fun c77 => absurd c77 (by decide)) (fun _ => ?_)
          refine JJ_iload_n dX12_taken_38 rfl rfl ?_
          refine JJ_iload_n dX12_taken_39 rfl rfl ?_
          refine JJ_icmp_eq (tgt := 51) dX12_taken_40 (by decide) (fun c78 => absurd c78 (by decide)) (fun _ => ?_)
          refine JJ_iload_n dX12_taken_43 rfl rfl ?_
          refine JJ_callS (rest := []) (kr_over (x := 2)) (by decide) mi_X12_over lk_X12_375 rfl (Nat.le_of_ble_eq_true rfl) rfl rfl dX12_taken_44 ?_
          intro v79 μ80 h81
          obtain ⟨rfl, rfl⟩ := h81
          refine JJ_r1 ?_
          refine JJ_eqi (x2 := 0) (by decide) ?_
          refine JJ_istore_n (lv' := [(3, .int 0), (0, .ref o), (1, .int (nI q)), (2, .int 1)]) dX12_taken_47 rfl (by decide) rfl ?_
          refine JJ_goto (tgt := 33) dX12_taken_48 (by decide) ?_
          refine JJ_iload_n dX12_taken_33 rfl rfl ?_
          refine JJ_iconst (v := (-1)) dX12_taken_34 rfl ?_
          refine JJ_icmp_eq (tgt := 51) dX12_taken_35 (by decide) (fun c82 => absurd c82 (by decide)) (fun _ => ?_)
          refine JJ_iload_n dX12_taken_38 rfl rfl ?_
          refine JJ_iload_n dX12_taken_39 rfl rfl ?_
          refine JJ_icmp_eq (tgt := 51) dX12_taken_40 (by decide) (fun c83 => absurd c83 (by decide)) (fun _ => ?_)
          refine JJ_iload_n dX12_taken_43 rfl rfl ?_
          refine JJ_callS (rest := []) (kr_over (x := 0)) (by decide) mi_X12_over lk_X12_375 rfl (Nat.le_of_ble_eq_true rfl) rfl rfl dX12_taken_44 ?_
          intro v84 μ85 h86
          obtain ⟨rfl, rfl⟩ := h86
          refine JJ_r1 ?_
          refine JJ_eqi (x2 := (-1)) (by decide) ?_
          refine JJ_istore_n (lv' := [(3, .int ((-1))), (0, .ref o), (1, .int (nI q)), (2, .int 1)]) dX12_taken_47 rfl (by decide) rfl ?_
          refine JJ_goto (tgt := 33) dX12_taken_48 (by decide) ?_
          refine JJ_iload_n dX12_taken_33 rfl rfl ?_
          refine JJ_iconst (v := (-1)) dX12_taken_34 rfl ?_
          refine JJ_icmp_eq (tgt := 51) dX12_taken_35 (by decide) (fun _ => ?_) (fun c87 => absurd (by decide) c87)
          refine JJ_iload_n dX12_taken_51 rfl rfl ?_
          refine JJ_iload_n dX12_taken_52 rfl rfl ?_
          refine JJ_icmp_ne (tgt := 65) dX12_taken_53 (by decide) (fun _ => ?_) (fun c88 => absurd c88 (by decide))
          refine JJ_bipush (v := (-13)) dX12_taken_65 rfl ?_
          refine JJ_iret dX12_taken_67 rfl ?_
          exact ans_i (by rw [e0, if_neg (by decide)])
        · skip
          refine JJ_aload_n dX12_taken_26 rfl rfl ?_
          refine JJ_getr (q := o + 8) (cis := [12]) (k := 12) fa_X12_35 (by decide) hR.1 rfl (hR.2 (12, 8, 20, 6) (by decide)).1 dX12_taken_27 ?_
          refine JJ_iload_n dX12_taken_30 rfl rfl ?_
          refine JJ_ialdX (v := 3) (hR.2 (12, 8, 20, 6) (by decide)).2 (IX_nI (by omega) (by omega)) (hN.2.1 8 _ (by decide) (by decide)) hxM dX12_taken_31 ?_
          refine JJ_istore_n (lv' := [(3, .int 3), (0, .ref o), (1, .int (nI q)), (2, .int 1)]) dX12_taken_32 rfl (by decide) rfl ?_
          refine JJ_iload_n dX12_taken_33 rfl rfl ?_
          refine JJ_iconst (v := (-1)) dX12_taken_34 rfl ?_
          refine JJ_icmp_eq (tgt := 51) dX12_taken_35 (by decide) (fun c89 => absurd c89 (by decide)) (fun _ => ?_)
          refine JJ_iload_n dX12_taken_38 rfl rfl ?_
          refine JJ_iload_n dX12_taken_39 rfl rfl ?_
          refine JJ_icmp_eq (tgt := 51) dX12_taken_40 (by decide) (fun c90 => absurd c90 (by decide)) (fun _ => ?_)
          refine JJ_iload_n dX12_taken_43 rfl rfl ?_
          refine JJ_callS (rest := []) (kr_over (x := 3)) (by decide) mi_X12_over lk_X12_375 rfl (Nat.le_of_ble_eq_true rfl) rfl rfl dX12_taken_44 ?_
          intro v91 μ92 h93
          obtain ⟨rfl, rfl⟩ := h93
          refine JJ_r1 ?_
          refine JJ_eqi (x2 := 1) (by decide) ?_
          refine JJ_istore_n (lv' := [(3, .int 1), (0, .ref o), (1, .int (nI q)), (2, .int 1)]) dX12_taken_47 rfl (by decide) rfl ?_
          refine JJ_goto (tgt := 33) dX12_taken_48 (by decide) ?_
          refine JJ_iload_n dX12_taken_33 rfl rfl ?_
          refine JJ_iconst (v := (-1)) dX12_taken_34 rfl ?_
          refine JJ_icmp_eq (tgt := 51) dX12_taken_35 (by decide) (fun c94 => absurd c94 (by decide)) (fun _ => ?_)
          refine JJ_iload_n dX12_taken_38 rfl rfl ?_
          refine JJ_iload_n dX12_taken_39 rfl rfl ?_
          refine JJ_icmp_eq (tgt := 51) dX12_taken_40 (by decide) (fun _ => ?_) (fun c95 => absurd (by decide) c95)
          refine JJ_iload_n dX12_taken_51 rfl rfl ?_
          refine JJ_iload_n dX12_taken_52 rfl rfl ?_
          refine JJ_icmp_ne (tgt := 65) dX12_taken_53 (by decide) (fun c96 => absurd (by decide) c96) (fun _ => ?_)
          refine JJ_aload_n dX12_taken_56 rfl rfl ?_
          refine JJ_getr (q := o + 9) (cis := [12]) (k := 13) fa_X12_38 (by decide) hR.1 rfl (hR.2 (13, 9, 20, 6) (by decide)).1 dX12_taken_57 ?_
          refine JJ_iload_n dX12_taken_60 rfl rfl ?_
          refine JJ_ialdX (v := A.1 6 q) (hR.2 (13, 9, 20, 6) (by decide)).2 (IX_nI (by omega) (by omega)) (hN.2.1 9 _ (by decide) (by decide)) (hA.c9 hq6) dX12_taken_61 ?_
          refine JJ_goto (tgt := 67) dX12_taken_62 (by decide) ?_
          refine JJ_iret dX12_taken_67 rfl ?_
          exact ans_i (by rw [e0, if_pos (by decide)])
        · skip
          refine JJ_aload_n dX12_taken_26 rfl rfl ?_
          refine JJ_getr (q := o + 8) (cis := [12]) (k := 12) fa_X12_35 (by decide) hR.1 rfl (hR.2 (12, 8, 20, 6) (by decide)).1 dX12_taken_27 ?_
          refine JJ_iload_n dX12_taken_30 rfl rfl ?_
          refine JJ_ialdX (v := 4) (hR.2 (12, 8, 20, 6) (by decide)).2 (IX_nI (by omega) (by omega)) (hN.2.1 8 _ (by decide) (by decide)) hxM dX12_taken_31 ?_
          refine JJ_istore_n (lv' := [(3, .int 4), (0, .ref o), (1, .int (nI q)), (2, .int 1)]) dX12_taken_32 rfl (by decide) rfl ?_
          refine JJ_iload_n dX12_taken_33 rfl rfl ?_
          refine JJ_iconst (v := (-1)) dX12_taken_34 rfl ?_
          refine JJ_icmp_eq (tgt := 51) dX12_taken_35 (by decide) (fun c97 => absurd c97 (by decide)) (fun _ => ?_)
          refine JJ_iload_n dX12_taken_38 rfl rfl ?_
          refine JJ_iload_n dX12_taken_39 rfl rfl ?_
          refine JJ_icmp_eq (tgt := 51) dX12_taken_40 (by decide) (fun c98 => absurd c98 (by decide)) (fun _ => ?_)
          refine JJ_iload_n dX12_taken_43 rfl rfl ?_
          refine JJ_callS (rest := []) (kr_over (x := 4)) (by decide) mi_X12_over lk_X12_375 rfl (Nat.le_of_ble_eq_true rfl) rfl rfl dX12_taken_44 ?_
          intro v99 μ100 h101
          obtain ⟨rfl, rfl⟩ := h101
          refine JJ_r1 ?_
          refine JJ_eqi (x2 := 2) (by decide) ?_
          refine JJ_istore_n (lv' := [(3, .int 2), (0, .ref o), (1, .int (nI q)), (2, .int 1)]) dX12_taken_47 rfl (by decide) rfl ?_
          refine JJ_goto (tgt := 33) dX12_taken_48 (by decide) ?_
          refine JJ_iload_n dX12_taken_33 rfl rfl ?_
          refine JJ_iconst (v := (-1)) dX12_taken_34 rfl ?_
          refine JJ_icmp_eq (tgt := 51) dX12_taken_35 (by decide) (fun c102 => absurd c102 (by decide)) (fun _ => ?_)
          refine JJ_iload_n dX12_taken_38 rfl rfl ?_
          refine JJ_iload_n dX12_taken_39 rfl rfl ?_
          refine JJ_icmp_eq (tgt := 51) dX12_taken_40 (by decide) (fun c103 => absurd c103 (by decide)) (fun _ => ?_)
          refine JJ_iload_n dX12_taken_43 rfl rfl ?_
          refine JJ_callS (rest := []) (kr_over (x := 2)) (by decide) mi_X12_over lk_X12_375 rfl (Nat.le_of_ble_eq_true rfl) rfl rfl dX12_taken_44 ?_
          intro v104 μ105 h106
          obtain ⟨rfl, rfl⟩ := h106
          refine JJ_r1 ?_
          refine JJ_eqi (x2 := 0) (by decide) ?_
          refine JJ_istore_n (lv' := [(3, .int 0), (0, .ref o), (1, .int (nI q)), (2, .int 1)]) dX12_taken_47 rfl (by decide) rfl ?_
          refine JJ_goto (tgt := 33) dX12_taken_48 (by decide) ?_
          refine JJ_iload_n dX12_taken_33 rfl rfl ?_
          refine JJ_iconst (v := (-1)) dX12_taken_34 rfl ?_
          refine JJ_icmp_eq (tgt := 51) dX12_taken_35 (by decide) (fun c107 => absurd c107 (by decide)) (fun _ => ?_)
          refine JJ_iload_n dX12_taken_38 rfl rfl ?_
          refine JJ_iload_n dX12_taken_39 rfl rfl ?_
          refine JJ_icmp_eq (tgt := 51) dX12_taken_40 (by decide) (fun c108 => absurd c108 (by decide)) (fun _ => ?_)
          refine JJ_iload_n dX12_taken_43 rfl rfl ?_
          refine JJ_callS (rest := []) (kr_over (x := 0)) (by decide) mi_X12_over lk_X12_375 rfl (Nat.le_of_ble_eq_true rfl) rfl rfl dX12_taken_44 ?_
          intro v109 μ110 h111
          obtain ⟨rfl, rfl⟩ := h111
          refine JJ_r1 ?_
          refine JJ_eqi (x2 := (-1)) (by decide) ?_
          refine JJ_istore_n (lv' := [(3, .int ((-1))), (0, .ref o), (1, .int (nI q)), (2, .int 1)]) dX12_taken_47 rfl (by decide) rfl ?_
          refine JJ_goto (tgt := 33) dX12_taken_48 (by decide) ?_
          refine JJ_iload_n dX12_taken_33 rfl rfl ?_
          refine JJ_iconst (v := (-1)) dX12_taken_34 rfl ?_
          refine JJ_icmp_eq (tgt := 51) dX12_taken_35 (by decide) (fun _ => ?_) (fun c112 => absurd (by decide) c112)
          refine JJ_iload_n dX12_taken_51 rfl rfl ?_
          refine JJ_iload_n dX12_taken_52 rfl rfl ?_
          refine JJ_icmp_ne (tgt := 65) dX12_taken_53 (by decide) (fun _ => ?_) (fun c113 => absurd c113 (by decide))
          refine JJ_bipush (v := (-13)) dX12_taken_65 rfl ?_
          refine JJ_iret dX12_taken_67 rfl ?_
          exact ans_i (by rw [e0, if_neg (by decide)])
        · skip
          refine JJ_aload_n dX12_taken_26 rfl rfl ?_
          refine JJ_getr (q := o + 8) (cis := [12]) (k := 12) fa_X12_35 (by decide) hR.1 rfl (hR.2 (12, 8, 20, 6) (by decide)).1 dX12_taken_27 ?_
          refine JJ_iload_n dX12_taken_30 rfl rfl ?_
          refine JJ_ialdX (v := 5) (hR.2 (12, 8, 20, 6) (by decide)).2 (IX_nI (by omega) (by omega)) (hN.2.1 8 _ (by decide) (by decide)) hxM dX12_taken_31 ?_
          refine JJ_istore_n (lv' := [(3, .int 5), (0, .ref o), (1, .int (nI q)), (2, .int 1)]) dX12_taken_32 rfl (by decide) rfl ?_
          refine JJ_iload_n dX12_taken_33 rfl rfl ?_
          refine JJ_iconst (v := (-1)) dX12_taken_34 rfl ?_
          refine JJ_icmp_eq (tgt := 51) dX12_taken_35 (by decide) (fun c114 => absurd c114 (by decide)) (fun _ => ?_)
          refine JJ_iload_n dX12_taken_38 rfl rfl ?_
          refine JJ_iload_n dX12_taken_39 rfl rfl ?_
          refine JJ_icmp_eq (tgt := 51) dX12_taken_40 (by decide) (fun c115 => absurd c115 (by decide)) (fun _ => ?_)
          refine JJ_iload_n dX12_taken_43 rfl rfl ?_
          refine JJ_callS (rest := []) (kr_over (x := 5)) (by decide) mi_X12_over lk_X12_375 rfl (Nat.le_of_ble_eq_true rfl) rfl rfl dX12_taken_44 ?_
          intro v116 μ117 h118
          obtain ⟨rfl, rfl⟩ := h118
          refine JJ_r1 ?_
          refine JJ_eqi (x2 := 1) (by decide) ?_
          refine JJ_istore_n (lv' := [(3, .int 1), (0, .ref o), (1, .int (nI q)), (2, .int 1)]) dX12_taken_47 rfl (by decide) rfl ?_
          refine JJ_goto (tgt := 33) dX12_taken_48 (by decide) ?_
          refine JJ_iload_n dX12_taken_33 rfl rfl ?_
          refine JJ_iconst (v := (-1)) dX12_taken_34 rfl ?_
          refine JJ_icmp_eq (tgt := 51) dX12_taken_35 (by decide) (fun c119 => absurd c119 (by decide)) (fun _ => ?_)
          refine JJ_iload_n dX12_taken_38 rfl rfl ?_
          refine JJ_iload_n dX12_taken_39 rfl rfl ?_
          refine JJ_icmp_eq (tgt := 51) dX12_taken_40 (by decide) (fun _ => ?_) (fun c120 => absurd (by decide) c120)
          refine JJ_iload_n dX12_taken_51 rfl rfl ?_
          refine JJ_iload_n dX12_taken_52 rfl rfl ?_
          refine JJ_icmp_ne (tgt := 65) dX12_taken_53 (by decide) (fun c121 => absurd (by decide) c121) (fun _ => ?_)
          refine JJ_aload_n dX12_taken_56 rfl rfl ?_
          refine JJ_getr (q := o + 9) (cis := [12]) (k := 13) fa_X12_38 (by decide) hR.1 rfl (hR.2 (13, 9, 20, 6) (by decide)).1 dX12_taken_57 ?_
          refine JJ_iload_n dX12_taken_60 rfl rfl ?_
          refine JJ_ialdX (v := A.1 6 q) (hR.2 (13, 9, 20, 6) (by decide)).2 (IX_nI (by omega) (by omega)) (hN.2.1 9 _ (by decide) (by decide)) (hA.c9 hq6) dX12_taken_61 ?_
          refine JJ_goto (tgt := 67) dX12_taken_62 (by decide) ?_
          refine JJ_iret dX12_taken_67 rfl ?_
          exact ans_i (by rw [e0, if_pos (by decide)])
      · skip
        rcases hdx with rfl | rfl | rfl | rfl | rfl | rfl <;> skip
        · skip
          refine JJ_aload_n dX12_taken_26 rfl rfl ?_
          refine JJ_getr (q := o + 8) (cis := [12]) (k := 12) fa_X12_35 (by decide) hR.1 rfl (hR.2 (12, 8, 20, 6) (by decide)).1 dX12_taken_27 ?_
          refine JJ_iload_n dX12_taken_30 rfl rfl ?_
          refine JJ_ialdX (v := 0) (hR.2 (12, 8, 20, 6) (by decide)).2 (IX_nI (by omega) (by omega)) (hN.2.1 8 _ (by decide) (by decide)) hxM dX12_taken_31 ?_
          refine JJ_istore_n (lv' := [(3, .int 0), (0, .ref o), (1, .int (nI q)), (2, .int 2)]) dX12_taken_32 rfl (by decide) rfl ?_
          refine JJ_iload_n dX12_taken_33 rfl rfl ?_
          refine JJ_iconst (v := (-1)) dX12_taken_34 rfl ?_
          refine JJ_icmp_eq (tgt := 51) dX12_taken_35 (by decide) (fun c122 => absurd c122 (by decide)) (fun _ => ?_)
          refine JJ_iload_n dX12_taken_38 rfl rfl ?_
          refine JJ_iload_n dX12_taken_39 rfl rfl ?_
          refine JJ_icmp_eq (tgt := 51) dX12_taken_40 (by decide) (fun c123 => absurd c123 (by decide)) (fun _ => ?_)
          refine JJ_iload_n dX12_taken_43 rfl rfl ?_
          refine JJ_callS (rest := []) (kr_over (x := 0)) (by decide) mi_X12_over lk_X12_375 rfl (Nat.le_of_ble_eq_true rfl) rfl rfl dX12_taken_44 ?_
          intro v124 μ125 h126
          obtain ⟨rfl, rfl⟩ := h126
          refine JJ_r1 ?_
          refine JJ_eqi (x2 := (-1)) (by decide) ?_
          refine JJ_istore_n (lv' := [(3, .int ((-1))), (0, .ref o), (1, .int (nI q)), (2, .int 2)]) dX12_taken_47 rfl (by decide) rfl ?_
          refine JJ_goto (tgt := 33) dX12_taken_48 (by decide) ?_
          refine JJ_iload_n dX12_taken_33 rfl rfl ?_
          refine JJ_iconst (v := (-1)) dX12_taken_34 rfl ?_
          refine JJ_icmp_eq (tgt := 51) dX12_taken_35 (by decide) (fun _ => ?_) (fun c127 => absurd (by decide) c127)
          refine JJ_iload_n dX12_taken_51 rfl rfl ?_
          refine JJ_iload_n dX12_taken_52 rfl rfl ?_
          refine JJ_icmp_ne (tgt := 65) dX12_taken_53 (by decide) (fun _ => ?_) (fun c128 => absurd c128 (by decide))
          refine JJ_bipush (v := (-13)) dX12_taken_65 rfl ?_
          refine JJ_iret dX12_taken_67 rfl ?_
          exact ans_i (by rw [e0, if_neg (by decide)])
        · skip
          refine JJ_aload_n dX12_taken_26 rfl rfl ?_
          refine JJ_getr (q := o + 8) (cis := [12]) (k := 12) fa_X12_35 (by decide) hR.1 rfl (hR.2 (12, 8, 20, 6) (by decide)).1 dX12_taken_27 ?_
          refine JJ_iload_n dX12_taken_30 rfl rfl ?_
          refine JJ_ialdX (v := 1) (hR.2 (12, 8, 20, 6) (by decide)).2 (IX_nI (by omega) (by omega)) (hN.2.1 8 _ (by decide) (by decide)) hxM dX12_taken_31 ?_
          refine JJ_istore_n (lv' := [(3, .int 1), (0, .ref o), (1, .int (nI q)), (2, .int 2)]) dX12_taken_32 rfl (by decide) rfl ?_
          refine JJ_iload_n dX12_taken_33 rfl rfl ?_
          refine JJ_iconst (v := (-1)) dX12_taken_34 rfl ?_
          refine JJ_icmp_eq (tgt := 51) dX12_taken_35 (by decide) (fun c129 => absurd c129 (by decide)) (fun _ => ?_)
          refine JJ_iload_n dX12_taken_38 rfl rfl ?_
          refine JJ_iload_n dX12_taken_39 rfl rfl ?_
          refine JJ_icmp_eq (tgt := 51) dX12_taken_40 (by decide) (fun c130 => absurd c130 (by decide)) (fun _ => ?_)
          refine JJ_iload_n dX12_taken_43 rfl rfl ?_
          refine JJ_callS (rest := []) (kr_over (x := 1)) (by decide) mi_X12_over lk_X12_375 rfl (Nat.le_of_ble_eq_true rfl) rfl rfl dX12_taken_44 ?_
          intro v131 μ132 h133
          obtain ⟨rfl, rfl⟩ := h133
          refine JJ_r1 ?_
          refine JJ_eqi (x2 := 0) (by decide) ?_
          refine JJ_istore_n (lv' := [(3, .int 0), (0, .ref o), (1, .int (nI q)), (2, .int 2)]) dX12_taken_47 rfl (by decide) rfl ?_
          refine JJ_goto (tgt := 33) dX12_taken_48 (by decide) ?_
          refine JJ_iload_n dX12_taken_33 rfl rfl ?_
          refine JJ_iconst (v := (-1)) dX12_taken_34 rfl ?_
          refine JJ_icmp_eq (tgt := 51) dX12_taken_35 (by decide) (fun c134 => absurd c134 (by decide)) (fun _ => ?_)
          refine JJ_iload_n dX12_taken_38 rfl rfl ?_
          refine JJ_iload_n dX12_taken_39 rfl rfl ?_
          refine JJ_icmp_eq (tgt := 51) dX12_taken_40 (by decide) (fun c135 => absurd c135 (by decide)) (fun _ => ?_)
          refine JJ_iload_n dX12_taken_43 rfl rfl ?_
          refine JJ_callS (rest := []) (kr_over (x := 0)) (by decide) mi_X12_over lk_X12_375 rfl (Nat.le_of_ble_eq_true rfl) rfl rfl dX12_taken_44 ?_
          intro v136 μ137 h138
          obtain ⟨rfl, rfl⟩ := h138
          refine JJ_r1 ?_
          refine JJ_eqi (x2 := (-1)) (by decide) ?_
          refine JJ_istore_n (lv' := [(3, .int ((-1))), (0, .ref o), (1, .int (nI q)), (2, .int 2)]) dX12_taken_47 rfl (by decide) rfl ?_
          refine JJ_goto (tgt := 33) dX12_taken_48 (by decide) ?_
          refine JJ_iload_n dX12_taken_33 rfl rfl ?_
          refine JJ_iconst (v := (-1)) dX12_taken_34 rfl ?_
          refine JJ_icmp_eq (tgt := 51) dX12_taken_35 (by decide) (fun _ => ?_) (fun c139 => absurd (by decide) c139)
          refine JJ_iload_n dX12_taken_51 rfl rfl ?_
          refine JJ_iload_n dX12_taken_52 rfl rfl ?_
          refine JJ_icmp_ne (tgt := 65) dX12_taken_53 (by decide) (fun _ => ?_) (fun c140 => absurd c140 (by decide))
          refine JJ_bipush (v := (-13)) dX12_taken_65 rfl ?_
          refine JJ_iret dX12_taken_67 rfl ?_
          exact ans_i (by rw [e0, if_neg (by decide)])
        · skip
          refine JJ_aload_n dX12_taken_26 rfl rfl ?_
          refine JJ_getr (q := o + 8) (cis := [12]) (k := 12) fa_X12_35 (by decide) hR.1 rfl (hR.2 (12, 8, 20, 6) (by decide)).1 dX12_taken_27 ?_
          refine JJ_iload_n dX12_taken_30 rfl rfl ?_
          refine JJ_ialdX (v := 2) (hR.2 (12, 8, 20, 6) (by decide)).2 (IX_nI (by omega) (by omega)) (hN.2.1 8 _ (by decide) (by decide)) hxM dX12_taken_31 ?_
          refine JJ_istore_n (lv' := [(3, .int 2), (0, .ref o), (1, .int (nI q)), (2, .int 2)]) dX12_taken_32 rfl (by decide) rfl ?_
          refine JJ_iload_n dX12_taken_33 rfl rfl ?_
          refine JJ_iconst (v := (-1)) dX12_taken_34 rfl ?_
          refine JJ_icmp_eq (tgt := 51) dX12_taken_35 (by decide) (fun c141 => absurd c141 (by decide)) (fun _ => ?_)
          refine JJ_iload_n dX12_taken_38 rfl rfl ?_
          refine JJ_iload_n dX12_taken_39 rfl rfl ?_
          refine JJ_icmp_eq (tgt := 51) dX12_taken_40 (by decide) (fun _ => ?_) (fun c142 => absurd (by decide) c142)
          refine JJ_iload_n dX12_taken_51 rfl rfl ?_
          refine JJ_iload_n dX12_taken_52 rfl rfl ?_
          refine JJ_icmp_ne (tgt := 65) dX12_taken_53 (by decide) (fun c143 => absurd (by decide) c143) (fun _ => ?_)
          refine JJ_aload_n dX12_taken_56 rfl rfl ?_
          refine JJ_getr (q := o + 9) (cis := [12]) (k := 13) fa_X12_38 (by decide) hR.1 rfl (hR.2 (13, 9, 20, 6) (by decide)).1 dX12_taken_57 ?_
          refine JJ_iload_n dX12_taken_60 rfl rfl ?_
          refine JJ_ialdX (v := A.1 6 q) (hR.2 (13, 9, 20, 6) (by decide)).2 (IX_nI (by omega) (by omega)) (hN.2.1 9 _ (by decide) (by decide)) (hA.c9 hq6) dX12_taken_61 ?_
          refine JJ_goto (tgt := 67) dX12_taken_62 (by decide) ?_
          refine JJ_iret dX12_taken_67 rfl ?_
          exact ans_i (by rw [e0, if_pos (by decide)])
        · skip
          refine JJ_aload_n dX12_taken_26 rfl rfl ?_
          refine JJ_getr (q := o + 8) (cis := [12]) (k := 12) fa_X12_35 (by decide) hR.1 rfl (hR.2 (12, 8, 20, 6) (by decide)).1 dX12_taken_27 ?_
          refine JJ_iload_n dX12_taken_30 rfl rfl ?_
          refine JJ_ialdX (v := 3) (hR.2 (12, 8, 20, 6) (by decide)).2 (IX_nI (by omega) (by omega)) (hN.2.1 8 _ (by decide) (by decide)) hxM dX12_taken_31 ?_
          refine JJ_istore_n (lv' := [(3, .int 3), (0, .ref o), (1, .int (nI q)), (2, .int 2)]) dX12_taken_32 rfl (by decide) rfl ?_
          refine JJ_iload_n dX12_taken_33 rfl rfl ?_
          refine JJ_iconst (v := (-1)) dX12_taken_34 rfl ?_
          refine JJ_icmp_eq (tgt := 51) dX12_taken_35 (by decide) (fun c144 => absurd c144 (by decide)) (fun _ => ?_)
          refine JJ_iload_n dX12_taken_38 rfl rfl ?_
          refine JJ_iload_n dX12_taken_39 rfl rfl ?_
          refine JJ_icmp_eq (tgt := 51) dX12_taken_40 (by decide) (fun c145 => absurd c145 (by decide)) (fun _ => ?_)
          refine JJ_iload_n dX12_taken_43 rfl rfl ?_
          refine JJ_callS (rest := []) (kr_over (x := 3)) (by decide) mi_X12_over lk_X12_375 rfl (Nat.le_of_ble_eq_true rfl) rfl rfl dX12_taken_44 ?_
          intro v146 μ147 h148
          obtain ⟨rfl, rfl⟩ := h148
          refine JJ_r1 ?_
          refine JJ_eqi (x2 := 1) (by decide) ?_
          refine JJ_istore_n (lv' := [(3, .int 1), (0, .ref o), (1, .int (nI q)), (2, .int 2)]) dX12_taken_47 rfl (by decide) rfl ?_
          refine JJ_goto (tgt := 33) dX12_taken_48 (by decide) ?_
          refine JJ_iload_n dX12_taken_33 rfl rfl ?_
          refine JJ_iconst (v := (-1)) dX12_taken_34 rfl ?_
          refine JJ_icmp_eq (tgt := 51) dX12_taken_35 (by decide) (fun c149 => absurd c149 (by decide)) (fun _ => ?_)
          refine JJ_iload_n dX12_taken_38 rfl rfl ?_
          refine JJ_iload_n dX12_taken_39 rfl rfl ?_
          refine JJ_icmp_eq (tgt := 51) dX12_taken_40 (by decide) (fun c150 => absurd c150 (by decide)) (fun _ => ?_)
          refine JJ_iload_n dX12_taken_43 rfl rfl ?_
          refine JJ_callS (rest := []) (kr_over (x := 1)) (by decide) mi_X12_over lk_X12_375 rfl (Nat.le_of_ble_eq_true rfl) rfl rfl dX12_taken_44 ?_
          intro v151 μ152 h153
          obtain ⟨rfl, rfl⟩ := h153
          refine JJ_r1 ?_
          refine JJ_eqi (x2 := 0) (by decide) ?_
          refine JJ_istore_n (lv' := [(3, .int 0), (0, .ref o), (1, .int (nI q)), (2, .int 2)]) dX12_taken_47 rfl (by decide) rfl ?_
          refine JJ_goto (tgt := 33) dX12_taken_48 (by decide) ?_
          refine JJ_iload_n dX12_taken_33 rfl rfl ?_
          refine JJ_iconst (v := (-1)) dX12_taken_34 rfl ?_
          refine JJ_icmp_eq (tgt := 51) dX12_taken_35 (by decide) (fun c154 => absurd c154 (by decide)) (fun _ => ?_)
          refine JJ_iload_n dX12_taken_38 rfl rfl ?_
          refine JJ_iload_n dX12_taken_39 rfl rfl ?_
          refine JJ_icmp_eq (tgt := 51) dX12_taken_40 (by decide) (fun c155 => absurd c155 (by decide)) (fun _ => ?_)
          refine JJ_iload_n dX12_taken_43 rfl rfl ?_
          refine JJ_callS (rest := []) (kr_over (x := 0)) (by decide) mi_X12_over lk_X12_375 rfl (Nat.le_of_ble_eq_true rfl) rfl rfl dX12_taken_44 ?_
          intro v156 μ157 h158
          obtain ⟨rfl, rfl⟩ := h158
          refine JJ_r1 ?_
          refine JJ_eqi (x2 := (-1)) (by decide) ?_
          refine JJ_istore_n (lv' := [(3, .int ((-1))), (0, .ref o), (1, .int (nI q)), (2, .int 2)]) dX12_taken_47 rfl (by decide) rfl ?_
          refine JJ_goto (tgt := 33) dX12_taken_48 (by decide) ?_
          refine JJ_iload_n dX12_taken_33 rfl rfl ?_
          refine JJ_iconst (v := (-1)) dX12_taken_34 rfl ?_
          refine JJ_icmp_eq (tgt := 51) dX12_taken_35 (by decide) (fun _ => ?_) (fun c159 => absurd (by decide) c159)
          refine JJ_iload_n dX12_taken_51 rfl rfl ?_
          refine JJ_iload_n dX12_taken_52 rfl rfl ?_
          refine JJ_icmp_ne (tgt := 65) dX12_taken_53 (by decide) (fun _ => ?_) (fun c160 => absurd c160 (by decide))
          refine JJ_bipush (v := (-13)) dX12_taken_65 rfl ?_
          refine JJ_iret dX12_taken_67 rfl ?_
          exact ans_i (by rw [e0, if_neg (by decide)])
        · skip
          refine JJ_aload_n dX12_taken_26 rfl rfl ?_
          refine JJ_getr (q := o + 8) (cis := [12]) (k := 12) fa_X12_35 (by decide) hR.1 rfl (hR.2 (12, 8, 20, 6) (by decide)).1 dX12_taken_27 ?_
          refine JJ_iload_n dX12_taken_30 rfl rfl ?_
          refine JJ_ialdX (v := 4) (hR.2 (12, 8, 20, 6) (by decide)).2 (IX_nI (by omega) (by omega)) (hN.2.1 8 _ (by decide) (by decide)) hxM dX12_taken_31 ?_
          refine JJ_istore_n (lv' := [(3, .int 4), (0, .ref o), (1, .int (nI q)), (2, .int 2)]) dX12_taken_32 rfl (by decide) rfl ?_
          refine JJ_iload_n dX12_taken_33 rfl rfl ?_
          refine JJ_iconst (v := (-1)) dX12_taken_34 rfl ?_
          refine JJ_icmp_eq (tgt := 51) dX12_taken_35 (by decide) (fun c161 => absurd c161 (by decide)) (fun _ => ?_)
          refine JJ_iload_n dX12_taken_38 rfl rfl ?_
          refine JJ_iload_n dX12_taken_39 rfl rfl ?_
          refine JJ_icmp_eq (tgt := 51) dX12_taken_40 (by decide) (fun c162 => absurd c162 (by decide)) (fun _ => ?_)
          refine JJ_iload_n dX12_taken_43 rfl rfl ?_
          refine JJ_callS (rest := []) (kr_over (x := 4)) (by decide) mi_X12_over lk_X12_375 rfl (Nat.le_of_ble_eq_true rfl) rfl rfl dX12_taken_44 ?_
          intro v163 μ164 h165
          obtain ⟨rfl, rfl⟩ := h165
          refine JJ_r1 ?_
          refine JJ_eqi (x2 := 2) (by decide) ?_
          refine JJ_istore_n (lv' := [(3, .int 2), (0, .ref o), (1, .int (nI q)), (2, .int 2)]) dX12_taken_47 rfl (by decide) rfl ?_
          refine JJ_goto (tgt := 33) dX12_taken_48 (by decide) ?_
          refine JJ_iload_n dX12_taken_33 rfl rfl ?_
          refine JJ_iconst (v := (-1)) dX12_taken_34 rfl ?_
          refine JJ_icmp_eq (tgt := 51) dX12_taken_35 (by decide) (fun c166 => absurd c166 (by decide)) (fun _ => ?_)
          refine JJ_iload_n dX12_taken_38 rfl rfl ?_
          refine JJ_iload_n dX12_taken_39 rfl rfl ?_
          refine JJ_icmp_eq (tgt := 51) dX12_taken_40 (by decide) (fun _ => ?_) (fun c167 => absurd (by decide) c167)
          refine JJ_iload_n dX12_taken_51 rfl rfl ?_
          refine JJ_iload_n dX12_taken_52 rfl rfl ?_
          refine JJ_icmp_ne (tgt := 65) dX12_taken_53 (by decide) (fun c168 => absurd (by decide) c168) (fun _ => ?_)
          refine JJ_aload_n dX12_taken_56 rfl rfl ?_
          refine JJ_getr (q := o + 9) (cis := [12]) (k := 13) fa_X12_38 (by decide) hR.1 rfl (hR.2 (13, 9, 20, 6) (by decide)).1 dX12_taken_57 ?_
          refine JJ_iload_n dX12_taken_60 rfl rfl ?_
          refine JJ_ialdX (v := A.1 6 q) (hR.2 (13, 9, 20, 6) (by decide)).2 (IX_nI (by omega) (by omega)) (hN.2.1 9 _ (by decide) (by decide)) (hA.c9 hq6) dX12_taken_61 ?_
          refine JJ_goto (tgt := 67) dX12_taken_62 (by decide) ?_
          refine JJ_iret dX12_taken_67 rfl ?_
          exact ans_i (by rw [e0, if_pos (by decide)])
        · skip
          refine JJ_aload_n dX12_taken_26 rfl rfl ?_
          refine JJ_getr (q := o + 8) (cis := [12]) (k := 12) fa_X12_35 (by decide) hR.1 rfl (hR.2 (12, 8, 20, 6) (by decide)).1 dX12_taken_27 ?_
          refine JJ_iload_n dX12_taken_30 rfl rfl ?_
          refine JJ_ialdX (v := 5) (hR.2 (12, 8, 20, 6) (by decide)).2 (IX_nI (by omega) (by omega)) (hN.2.1 8 _ (by decide) (by decide)) hxM dX12_taken_31 ?_
          refine JJ_istore_n (lv' := [(3, .int 5), (0, .ref o), (1, .int (nI q)), (2, .int 2)]) dX12_taken_32 rfl (by decide) rfl ?_
          refine JJ_iload_n dX12_taken_33 rfl rfl ?_
          refine JJ_iconst (v := (-1)) dX12_taken_34 rfl ?_
          refine JJ_icmp_eq (tgt := 51) dX12_taken_35 (by decide) (fun c169 => absurd c169 (by decide)) (fun _ => ?_)
          refine JJ_iload_n dX12_taken_38 rfl rfl ?_
          refine JJ_iload_n dX12_taken_39 rfl rfl ?_
          refine JJ_icmp_eq (tgt := 51) dX12_taken_40 (by decide) (fun c170 => absurd c170 (by decide)) (fun _ => ?_)
          refine JJ_iload_n dX12_taken_43 rfl rfl ?_
          refine JJ_callS (rest := []) (kr_over (x := 5)) (by decide) mi_X12_over lk_X12_375 rfl (Nat.le_of_ble_eq_true rfl) rfl rfl dX12_taken_44 ?_
          intro v171 μ172 h173
          obtain ⟨rfl, rfl⟩ := h173
          refine JJ_r1 ?_
          refine JJ_eqi (x2 := 1) (by decide) ?_
          refine JJ_istore_n (lv' := [(3, .int 1), (0, .ref o), (1, .int (nI q)), (2, .int 2)]) dX12_taken_47 rfl (by decide) rfl ?_
          refine JJ_goto (tgt := 33) dX12_taken_48 (by decide) ?_
          refine JJ_iload_n dX12_taken_33 rfl rfl ?_
          refine JJ_iconst (v := (-1)) dX12_taken_34 rfl ?_
          refine JJ_icmp_eq (tgt := 51) dX12_taken_35 (by decide) (fun c174 => absurd c174 (by decide)) (fun _ => ?_)
          refine JJ_iload_n dX12_taken_38 rfl rfl ?_
          refine JJ_iload_n dX12_taken_39 rfl rfl ?_
          refine JJ_icmp_eq (tgt := 51) dX12_taken_40 (by decide) (fun c175 => absurd c175 (by decide)) (fun _ => ?_)
          refine JJ_iload_n dX12_taken_43 rfl rfl ?_
          refine JJ_callS (rest := []) (kr_over (x := 1)) (by decide) mi_X12_over lk_X12_375 rfl (Nat.le_of_ble_eq_true rfl) rfl rfl dX12_taken_44 ?_
          intro v176 μ177 h178
          obtain ⟨rfl, rfl⟩ := h178
          refine JJ_r1 ?_
          refine JJ_eqi (x2 := 0) (by decide) ?_
          refine JJ_istore_n (lv' := [(3, .int 0), (0, .ref o), (1, .int (nI q)), (2, .int 2)]) dX12_taken_47 rfl (by decide) rfl ?_
          refine JJ_goto (tgt := 33) dX12_taken_48 (by decide) ?_
          refine JJ_iload_n dX12_taken_33 rfl rfl ?_
          refine JJ_iconst (v := (-1)) dX12_taken_34 rfl ?_
          refine JJ_icmp_eq (tgt := 51) dX12_taken_35 (by decide) (fun c179 => absurd c179 (by decide)) (fun _ => ?_)
          refine JJ_iload_n dX12_taken_38 rfl rfl ?_
          refine JJ_iload_n dX12_taken_39 rfl rfl ?_
          refine JJ_icmp_eq (tgt := 51) dX12_taken_40 (by decide) (fun c180 => absurd c180 (by decide)) (fun _ => ?_)
          refine JJ_iload_n dX12_taken_43 rfl rfl ?_
          refine JJ_callS (rest := []) (kr_over (x := 0)) (by decide) mi_X12_over lk_X12_375 rfl (Nat.le_of_ble_eq_true rfl) rfl rfl dX12_taken_44 ?_
          intro v181 μ182 h183
          obtain ⟨rfl, rfl⟩ := h183
          refine JJ_r1 ?_
          refine JJ_eqi (x2 := (-1)) (by decide) ?_
          refine JJ_istore_n (lv' := [(3, .int ((-1))), (0, .ref o), (1, .int (nI q)), (2, .int 2)]) dX12_taken_47 rfl (by decide) rfl ?_
          refine JJ_goto (tgt := 33) dX12_taken_48 (by decide) ?_
          refine JJ_iload_n dX12_taken_33 rfl rfl ?_
          refine JJ_iconst (v := (-1)) dX12_taken_34 rfl ?_
          refine JJ_icmp_eq (tgt := 51) dX12_taken_35 (by decide) (fun _ => ?_) (fun c184 => absurd (by decide) c184)
          refine JJ_iload_n dX12_taken_51 rfl rfl ?_
          refine JJ_iload_n dX12_taken_52 rfl rfl ?_
          refine JJ_icmp_ne (tgt := 65) dX12_taken_53 (by decide) (fun _ => ?_) (fun c185 => absurd c185 (by decide))
          refine JJ_bipush (v := (-13)) dX12_taken_65 rfl ?_
          refine JJ_iret dX12_taken_67 rfl ?_
          exact ans_i (by rw [e0, if_neg (by decide)])
      · skip
        rcases hdx with rfl | rfl | rfl | rfl | rfl | rfl <;> skip
        · skip
          refine JJ_aload_n dX12_taken_26 rfl rfl ?_
          refine JJ_getr (q := o + 8) (cis := [12]) (k := 12) fa_X12_35 (by decide) hR.1 rfl (hR.2 (12, 8, 20, 6) (by decide)).1 dX12_taken_27 ?_
          refine JJ_iload_n dX12_taken_30 rfl rfl ?_
          refine JJ_ialdX (v := 0) (hR.2 (12, 8, 20, 6) (by decide)).2 (IX_nI (by omega) (by omega)) (hN.2.1 8 _ (by decide) (by decide)) hxM dX12_taken_31 ?_
          refine JJ_istore_n (lv' := [(3, .int 0), (0, .ref o), (1, .int (nI q)), (2, .int 3)]) dX12_taken_32 rfl (by decide) rfl ?_
          refine JJ_iload_n dX12_taken_33 rfl rfl ?_
          refine JJ_iconst (v := (-1)) dX12_taken_34 rfl ?_
          refine JJ_icmp_eq (tgt := 51) dX12_taken_35 (by decide) (fun c186 => absurd c186 (by decide)) (fun _ => ?_)
          refine JJ_iload_n dX12_taken_38 rfl rfl ?_
          refine JJ_iload_n dX12_taken_39 rfl rfl ?_
          refine JJ_icmp_eq (tgt := 51) dX12_taken_40 (by decide) (fun c187 => absurd c187 (by decide)) (fun _ => ?_)
          refine JJ_iload_n dX12_taken_43 rfl rfl ?_
          refine JJ_callS (rest := []) (kr_over (x := 0)) (by decide) mi_X12_over lk_X12_375 rfl (Nat.le_of_ble_eq_true rfl) rfl rfl dX12_taken_44 ?_
          intro v188 μ189 h190
          obtain ⟨rfl, rfl⟩ := h190
          refine JJ_r1 ?_
          refine JJ_eqi (x2 := (-1)) (by decide) ?_
          refine JJ_istore_n (lv' := [(3, .int ((-1))), (0, .ref o), (1, .int (nI q)), (2, .int 3)]) dX12_taken_47 rfl (by decide) rfl ?_
          refine JJ_goto (tgt := 33) dX12_taken_48 (by decide) ?_
          refine JJ_iload_n dX12_taken_33 rfl rfl ?_
          refine JJ_iconst (v := (-1)) dX12_taken_34 rfl ?_
          refine JJ_icmp_eq (tgt := 51) dX12_taken_35 (by decide) (fun _ => ?_) (fun c191 => absurd (by decide) c191)
          refine JJ_iload_n dX12_taken_51 rfl rfl ?_
          refine JJ_iload_n dX12_taken_52 rfl rfl ?_
          refine JJ_icmp_ne (tgt := 65) dX12_taken_53 (by decide) (fun _ => ?_) (fun c192 => absurd c192 (by decide))
          refine JJ_bipush (v := (-13)) dX12_taken_65 rfl ?_
          refine JJ_iret dX12_taken_67 rfl ?_
          exact ans_i (by rw [e0, if_neg (by decide)])
        · skip
          refine JJ_aload_n dX12_taken_26 rfl rfl ?_
          refine JJ_getr (q := o + 8) (cis := [12]) (k := 12) fa_X12_35 (by decide) hR.1 rfl (hR.2 (12, 8, 20, 6) (by decide)).1 dX12_taken_27 ?_
          refine JJ_iload_n dX12_taken_30 rfl rfl ?_
          refine JJ_ialdX (v := 1) (hR.2 (12, 8, 20, 6) (by decide)).2 (IX_nI (by omega) (by omega)) (hN.2.1 8 _ (by decide) (by decide)) hxM dX12_taken_31 ?_
          refine JJ_istore_n (lv' := [(3, .int 1), (0, .ref o), (1, .int (nI q)), (2, .int 3)]) dX12_taken_32 rfl (by decide) rfl ?_
          refine JJ_iload_n dX12_taken_33 rfl rfl ?_
          refine JJ_iconst (v := (-1)) dX12_taken_34 rfl ?_
          refine JJ_icmp_eq (tgt := 51) dX12_taken_35 (by decide) (fun c193 => absurd c193 (by decide)) (fun _ => ?_)
          refine JJ_iload_n dX12_taken_38 rfl rfl ?_
          refine JJ_iload_n dX12_taken_39 rfl rfl ?_
          refine JJ_icmp_eq (tgt := 51) dX12_taken_40 (by decide) (fun c194 => absurd c194 (by decide)) (fun _ => ?_)
          refine JJ_iload_n dX12_taken_43 rfl rfl ?_
          refine JJ_callS (rest := []) (kr_over (x := 1)) (by decide) mi_X12_over lk_X12_375 rfl (Nat.le_of_ble_eq_true rfl) rfl rfl dX12_taken_44 ?_
          intro v195 μ196 h197
          obtain ⟨rfl, rfl⟩ := h197
          refine JJ_r1 ?_
          refine JJ_eqi (x2 := 0) (by decide) ?_
          refine JJ_istore_n (lv' := [(3, .int 0), (0, .ref o), (1, .int (nI q)), (2, .int 3)]) dX12_taken_47 rfl (by decide) rfl ?_
          refine JJ_goto (tgt := 33) dX12_taken_48 (by decide) ?_
          refine JJ_iload_n dX12_taken_33 rfl rfl ?_
          refine JJ_iconst (v := (-1)) dX12_taken_34 rfl ?_
          refine JJ_icmp_eq (tgt := 51) dX12_taken_35 (by decide) (fun c198 => absurd c198 (by decide)) (fun _ => ?_)
          refine JJ_iload_n dX12_taken_38 rfl rfl ?_
          refine JJ_iload_n dX12_taken_39 rfl rfl ?_
          refine JJ_icmp_eq (tgt := 51) dX12_taken_40 (by decide) (fun c199 => absurd c199 (by decide)) (fun _ => ?_)
          refine JJ_iload_n dX12_taken_43 rfl rfl ?_
          refine JJ_callS (rest := []) (kr_over (x := 0)) (by decide) mi_X12_over lk_X12_375 rfl (Nat.le_of_ble_eq_true rfl) rfl rfl dX12_taken_44 ?_
          intro v200 μ201 h202
          obtain ⟨rfl, rfl⟩ := h202
          refine JJ_r1 ?_
          refine JJ_eqi (x2 := (-1)) (by decide) ?_
          refine JJ_istore_n (lv' := [(3, .int ((-1))), (0, .ref o), (1, .int (nI q)), (2, .int 3)]) dX12_taken_47 rfl (by decide) rfl ?_
          refine JJ_goto (tgt := 33) dX12_taken_48 (by decide) ?_
          refine JJ_iload_n dX12_taken_33 rfl rfl ?_
          refine JJ_iconst (v := (-1)) dX12_taken_34 rfl ?_
          refine JJ_icmp_eq (tgt := 51) dX12_taken_35 (by decide) (fun _ => ?_) (fun c203 => absurd (by decide) c203)
          refine JJ_iload_n dX12_taken_51 rfl rfl ?_
          refine JJ_iload_n dX12_taken_52 rfl rfl ?_
          refine JJ_icmp_ne (tgt := 65) dX12_taken_53 (by decide) (fun _ => ?_) (fun c204 => absurd c204 (by decide))
          refine JJ_bipush (v := (-13)) dX12_taken_65 rfl ?_
          refine JJ_iret dX12_taken_67 rfl ?_
          exact ans_i (by rw [e0, if_neg (by decide)])
        · skip
          refine JJ_aload_n dX12_taken_26 rfl rfl ?_
          refine JJ_getr (q := o + 8) (cis := [12]) (k := 12) fa_X12_35 (by decide) hR.1 rfl (hR.2 (12, 8, 20, 6) (by decide)).1 dX12_taken_27 ?_
          refine JJ_iload_n dX12_taken_30 rfl rfl ?_
          refine JJ_ialdX (v := 2) (hR.2 (12, 8, 20, 6) (by decide)).2 (IX_nI (by omega) (by omega)) (hN.2.1 8 _ (by decide) (by decide)) hxM dX12_taken_31 ?_
          refine JJ_istore_n (lv' := [(3, .int 2), (0, .ref o), (1, .int (nI q)), (2, .int 3)]) dX12_taken_32 rfl (by decide) rfl ?_
          refine JJ_iload_n dX12_taken_33 rfl rfl ?_
          refine JJ_iconst (v := (-1)) dX12_taken_34 rfl ?_
          refine JJ_icmp_eq (tgt := 51) dX12_taken_35 (by decide) (fun c205 => absurd c205 (by decide)) (fun _ => ?_)
          refine JJ_iload_n dX12_taken_38 rfl rfl ?_
          refine JJ_iload_n dX12_taken_39 rfl rfl ?_
          refine JJ_icmp_eq (tgt := 51) dX12_taken_40 (by decide) (fun c206 => absurd c206 (by decide)) (fun _ => ?_)
          refine JJ_iload_n dX12_taken_43 rfl rfl ?_
          refine JJ_callS (rest := []) (kr_over (x := 2)) (by decide) mi_X12_over lk_X12_375 rfl (Nat.le_of_ble_eq_true rfl) rfl rfl dX12_taken_44 ?_
          intro v207 μ208 h209
          obtain ⟨rfl, rfl⟩ := h209
          refine JJ_r1 ?_
          refine JJ_eqi (x2 := 0) (by decide) ?_
          refine JJ_istore_n (lv' := [(3, .int 0), (0, .ref o), (1, .int (nI q)), (2, .int 3)]) dX12_taken_47 rfl (by decide) rfl ?_
          refine JJ_goto (tgt := 33) dX12_taken_48 (by decide) ?_
          refine JJ_iload_n dX12_taken_33 rfl rfl ?_
          refine JJ_iconst (v := (-1)) dX12_taken_34 rfl ?_
          refine JJ_icmp_eq (tgt := 51) dX12_taken_35 (by decide) (fun c210 => absurd c210 (by decide)) (fun _ => ?_)
          refine JJ_iload_n dX12_taken_38 rfl rfl ?_
          refine JJ_iload_n dX12_taken_39 rfl rfl ?_
          refine JJ_icmp_eq (tgt := 51) dX12_taken_40 (by decide) (fun c211 => absurd c211 (by decide)) (fun _ => ?_)
          refine JJ_iload_n dX12_taken_43 rfl rfl ?_
          refine JJ_callS (rest := []) (kr_over (x := 0)) (by decide) mi_X12_over lk_X12_375 rfl (Nat.le_of_ble_eq_true rfl) rfl rfl dX12_taken_44 ?_
          intro v212 μ213 h214
          obtain ⟨rfl, rfl⟩ := h214
          refine JJ_r1 ?_
          refine JJ_eqi (x2 := (-1)) (by decide) ?_
          refine JJ_istore_n (lv' := [(3, .int ((-1))), (0, .ref o), (1, .int (nI q)), (2, .int 3)]) dX12_taken_47 rfl (by decide) rfl ?_
          refine JJ_goto (tgt := 33) dX12_taken_48 (by decide) ?_
          refine JJ_iload_n dX12_taken_33 rfl rfl ?_
          refine JJ_iconst (v := (-1)) dX12_taken_34 rfl ?_
          refine JJ_icmp_eq (tgt := 51) dX12_taken_35 (by decide) (fun _ => ?_) (fun c215 => absurd (by decide) c215)
          refine JJ_iload_n dX12_taken_51 rfl rfl ?_
          refine JJ_iload_n dX12_taken_52 rfl rfl ?_
          refine JJ_icmp_ne (tgt := 65) dX12_taken_53 (by decide) (fun _ => ?_) (fun c216 => absurd c216 (by decide))
          refine JJ_bipush (v := (-13)) dX12_taken_65 rfl ?_
          refine JJ_iret dX12_taken_67 rfl ?_
          exact ans_i (by rw [e0, if_neg (by decide)])
        · skip
          refine JJ_aload_n dX12_taken_26 rfl rfl ?_
          refine JJ_getr (q := o + 8) (cis := [12]) (k := 12) fa_X12_35 (by decide) hR.1 rfl (hR.2 (12, 8, 20, 6) (by decide)).1 dX12_taken_27 ?_
          refine JJ_iload_n dX12_taken_30 rfl rfl ?_
          refine JJ_ialdX (v := 3) (hR.2 (12, 8, 20, 6) (by decide)).2 (IX_nI (by omega) (by omega)) (hN.2.1 8 _ (by decide) (by decide)) hxM dX12_taken_31 ?_
          refine JJ_istore_n (lv' := [(3, .int 3), (0, .ref o), (1, .int (nI q)), (2, .int 3)]) dX12_taken_32 rfl (by decide) rfl ?_
          refine JJ_iload_n dX12_taken_33 rfl rfl ?_
          refine JJ_iconst (v := (-1)) dX12_taken_34 rfl ?_
          refine JJ_icmp_eq (tgt := 51) dX12_taken_35 (by decide) (fun c217 => absurd c217 (by decide)) (fun _ => ?_)
          refine JJ_iload_n dX12_taken_38 rfl rfl ?_
          refine JJ_iload_n dX12_taken_39 rfl rfl ?_
          refine JJ_icmp_eq (tgt := 51) dX12_taken_40 (by decide) (fun _ => ?_) (fun c218 => absurd (by decide) c218)
          refine JJ_iload_n dX12_taken_51 rfl rfl ?_
          refine JJ_iload_n dX12_taken_52 rfl rfl ?_
          refine JJ_icmp_ne (tgt := 65) dX12_taken_53 (by decide) (fun c219 => absurd (by decide) c219) (fun _ => ?_)
          refine JJ_aload_n dX12_taken_56 rfl rfl ?_
          refine JJ_getr (q := o + 9) (cis := [12]) (k := 13) fa_X12_38 (by decide) hR.1 rfl (hR.2 (13, 9, 20, 6) (by decide)).1 dX12_taken_57 ?_
          refine JJ_iload_n dX12_taken_60 rfl rfl ?_
          refine JJ_ialdX (v := A.1 6 q) (hR.2 (13, 9, 20, 6) (by decide)).2 (IX_nI (by omega) (by omega)) (hN.2.1 9 _ (by decide) (by decide)) (hA.c9 hq6) dX12_taken_61 ?_
          refine JJ_goto (tgt := 67) dX12_taken_62 (by decide) ?_
          refine JJ_iret dX12_taken_67 rfl ?_
          exact ans_i (by rw [e0, if_pos (by decide)])
        · skip
          refine JJ_aload_n dX12_taken_26 rfl rfl ?_
          refine JJ_getr (q := o + 8) (cis := [12]) (k := 12) fa_X12_35 (by decide) hR.1 rfl (hR.2 (12, 8, 20, 6) (by decide)).1 dX12_taken_27 ?_
          refine JJ_iload_n dX12_taken_30 rfl rfl ?_
          refine JJ_ialdX (v := 4) (hR.2 (12, 8, 20, 6) (by decide)).2 (IX_nI (by omega) (by omega)) (hN.2.1 8 _ (by decide) (by decide)) hxM dX12_taken_31 ?_
          refine JJ_istore_n (lv' := [(3, .int 4), (0, .ref o), (1, .int (nI q)), (2, .int 3)]) dX12_taken_32 rfl (by decide) rfl ?_
          refine JJ_iload_n dX12_taken_33 rfl rfl ?_
          refine JJ_iconst (v := (-1)) dX12_taken_34 rfl ?_
          refine JJ_icmp_eq (tgt := 51) dX12_taken_35 (by decide) (fun c220 => absurd c220 (by decide)) (fun _ => ?_)
          refine JJ_iload_n dX12_taken_38 rfl rfl ?_
          refine JJ_iload_n dX12_taken_39 rfl rfl ?_
          refine JJ_icmp_eq (tgt := 51) dX12_taken_40 (by decide) (fun c221 => absurd c221 (by decide)) (fun _ => ?_)
          refine JJ_iload_n dX12_taken_43 rfl rfl ?_
          refine JJ_callS (rest := []) (kr_over (x := 4)) (by decide) mi_X12_over lk_X12_375 rfl (Nat.le_of_ble_eq_true rfl) rfl rfl dX12_taken_44 ?_
          intro v222 μ223 h224
          obtain ⟨rfl, rfl⟩ := h224
          refine JJ_r1 ?_
          refine JJ_eqi (x2 := 2) (by decide) ?_
          refine JJ_istore_n (lv' := [(3, .int 2), (0, .ref o), (1, .int (nI q)), (2, .int 3)]) dX12_taken_47 rfl (by decide) rfl ?_
          refine JJ_goto (tgt := 33) dX12_taken_48 (by decide) ?_
          refine JJ_iload_n dX12_taken_33 rfl rfl ?_
          refine JJ_iconst (v := (-1)) dX12_taken_34 rfl ?_
          refine JJ_icmp_eq (tgt := 51) dX12_taken_35 (by decide) (fun c225 => absurd c225 (by decide)) (fun _ => ?_)
          refine JJ_iload_n dX12_taken_38 rfl rfl ?_
          refine JJ_iload_n dX12_taken_39 rfl rfl ?_
          refine JJ_icmp_eq (tgt := 51) dX12_taken_40 (by decide) (fun c226 => absurd c226 (by decide)) (fun _ => ?_)
          refine JJ_iload_n dX12_taken_43 rfl rfl ?_
          refine JJ_callS (rest := []) (kr_over (x := 2)) (by decide) mi_X12_over lk_X12_375 rfl (Nat.le_of_ble_eq_true rfl) rfl rfl dX12_taken_44 ?_
          intro v227 μ228 h229
          obtain ⟨rfl, rfl⟩ := h229
          refine JJ_r1 ?_
          refine JJ_eqi (x2 := 0) (by decide) ?_
          refine JJ_istore_n (lv' := [(3, .int 0), (0, .ref o), (1, .int (nI q)), (2, .int 3)]) dX12_taken_47 rfl (by decide) rfl ?_
          refine JJ_goto (tgt := 33) dX12_taken_48 (by decide) ?_
          refine JJ_iload_n dX12_taken_33 rfl rfl ?_
          refine JJ_iconst (v := (-1)) dX12_taken_34 rfl ?_
          refine JJ_icmp_eq (tgt := 51) dX12_taken_35 (by decide) (fun c230 => absurd c230 (by decide)) (fun _ => ?_)
          refine JJ_iload_n dX12_taken_38 rfl rfl ?_
          refine JJ_iload_n dX12_taken_39 rfl rfl ?_
          refine JJ_icmp_eq (tgt := 51) dX12_taken_40 (by decide) (fun c231 => absurd c231 (by decide)) (fun _ => ?_)
          refine JJ_iload_n dX12_taken_43 rfl rfl ?_
          refine JJ_callS (rest := []) (kr_over (x := 0)) (by decide) mi_X12_over lk_X12_375 rfl (Nat.le_of_ble_eq_true rfl) rfl rfl dX12_taken_44 ?_
          intro v232 μ233 h234
          obtain ⟨rfl, rfl⟩ := h234
          refine JJ_r1 ?_
          refine JJ_eqi (x2 := (-1)) (by decide) ?_
          refine JJ_istore_n (lv' := [(3, .int ((-1))), (0, .ref o), (1, .int (nI q)), (2, .int 3)]) dX12_taken_47 rfl (by decide) rfl ?_
          refine JJ_goto (tgt := 33) dX12_taken_48 (by decide) ?_
          refine JJ_iload_n dX12_taken_33 rfl rfl ?_
          refine JJ_iconst (v := (-1)) dX12_taken_34 rfl ?_
          refine JJ_icmp_eq (tgt := 51) dX12_taken_35 (by decide) (fun _ => ?_) (fun c235 => absurd (by decide) c235)
          refine JJ_iload_n dX12_taken_51 rfl rfl ?_
          refine JJ_iload_n dX12_taken_52 rfl rfl ?_
          refine JJ_icmp_ne (tgt := 65) dX12_taken_53 (by decide) (fun _ => ?_) (fun c236 => absurd c236 (by decide))
          refine JJ_bipush (v := (-13)) dX12_taken_65 rfl ?_
          refine JJ_iret dX12_taken_67 rfl ?_
          exact ans_i (by rw [e0, if_neg (by decide)])
        · skip
          refine JJ_aload_n dX12_taken_26 rfl rfl ?_
          refine JJ_getr (q := o + 8) (cis := [12]) (k := 12) fa_X12_35 (by decide) hR.1 rfl (hR.2 (12, 8, 20, 6) (by decide)).1 dX12_taken_27 ?_
          refine JJ_iload_n dX12_taken_30 rfl rfl ?_
          refine JJ_ialdX (v := 5) (hR.2 (12, 8, 20, 6) (by decide)).2 (IX_nI (by omega) (by omega)) (hN.2.1 8 _ (by decide) (by decide)) hxM dX12_taken_31 ?_
          refine JJ_istore_n (lv' := [(3, .int 5), (0, .ref o), (1, .int (nI q)), (2, .int 3)]) dX12_taken_32 rfl (by decide) rfl ?_
          refine JJ_iload_n dX12_taken_33 rfl rfl ?_
          refine JJ_iconst (v := (-1)) dX12_taken_34 rfl ?_
          refine JJ_icmp_eq (tgt := 51) dX12_taken_35 (by decide) (fun c237 => absurd c237 (by decide)) (fun _ => ?_)
          refine JJ_iload_n dX12_taken_38 rfl rfl ?_
          refine JJ_iload_n dX12_taken_39 rfl rfl ?_
          refine JJ_icmp_eq (tgt := 51) dX12_taken_40 (by decide) (fun c238 => absurd c238 (by decide)) (fun _ => ?_)
          refine JJ_iload_n dX12_taken_43 rfl rfl ?_
          refine JJ_callS (rest := []) (kr_over (x := 5)) (by decide) mi_X12_over lk_X12_375 rfl (Nat.le_of_ble_eq_true rfl) rfl rfl dX12_taken_44 ?_
          intro v239 μ240 h241
          obtain ⟨rfl, rfl⟩ := h241
          refine JJ_r1 ?_
          refine JJ_eqi (x2 := 1) (by decide) ?_
          refine JJ_istore_n (lv' := [(3, .int 1), (0, .ref o), (1, .int (nI q)), (2, .int 3)]) dX12_taken_47 rfl (by decide) rfl ?_
          refine JJ_goto (tgt := 33) dX12_taken_48 (by decide) ?_
          refine JJ_iload_n dX12_taken_33 rfl rfl ?_
          refine JJ_iconst (v := (-1)) dX12_taken_34 rfl ?_
          refine JJ_icmp_eq (tgt := 51) dX12_taken_35 (by decide) (fun c242 => absurd c242 (by decide)) (fun _ => ?_)
          refine JJ_iload_n dX12_taken_38 rfl rfl ?_
          refine JJ_iload_n dX12_taken_39 rfl rfl ?_
          refine JJ_icmp_eq (tgt := 51) dX12_taken_40 (by decide) (fun c243 => absurd c243 (by decide)) (fun _ => ?_)
          refine JJ_iload_n dX12_taken_43 rfl rfl ?_
          refine JJ_callS (rest := []) (kr_over (x := 1)) (by decide) mi_X12_over lk_X12_375 rfl (Nat.le_of_ble_eq_true rfl) rfl rfl dX12_taken_44 ?_
          intro v244 μ245 h246
          obtain ⟨rfl, rfl⟩ := h246
          refine JJ_r1 ?_
          refine JJ_eqi (x2 := 0) (by decide) ?_
          refine JJ_istore_n (lv' := [(3, .int 0), (0, .ref o), (1, .int (nI q)), (2, .int 3)]) dX12_taken_47 rfl (by decide) rfl ?_
          refine JJ_goto (tgt := 33) dX12_taken_48 (by decide) ?_
          refine JJ_iload_n dX12_taken_33 rfl rfl ?_
          refine JJ_iconst (v := (-1)) dX12_taken_34 rfl ?_
          refine JJ_icmp_eq (tgt := 51) dX12_taken_35 (by decide) (fun c247 => absurd c247 (by decide)) (fun _ => ?_)
          refine JJ_iload_n dX12_taken_38 rfl rfl ?_
          refine JJ_iload_n dX12_taken_39 rfl rfl ?_
          refine JJ_icmp_eq (tgt := 51) dX12_taken_40 (by decide) (fun c248 => absurd c248 (by decide)) (fun _ => ?_)
          refine JJ_iload_n dX12_taken_43 rfl rfl ?_
          refine JJ_callS (rest := []) (kr_over (x := 0)) (by decide) mi_X12_over lk_X12_375 rfl (Nat.le_of_ble_eq_true rfl) rfl rfl dX12_taken_44 ?_
          intro v249 μ250 h251
          obtain ⟨rfl, rfl⟩ := h251
          refine JJ_r1 ?_
          refine JJ_eqi (x2 := (-1)) (by decide) ?_
          refine JJ_istore_n (lv' := [(3, .int ((-1))), (0, .ref o), (1, .int (nI q)), (2, .int 3)]) dX12_taken_47 rfl (by decide) rfl ?_
          refine JJ_goto (tgt := 33) dX12_taken_48 (by decide) ?_
          refine JJ_iload_n dX12_taken_33 rfl rfl ?_
          refine JJ_iconst (v := (-1)) dX12_taken_34 rfl ?_
          refine JJ_icmp_eq (tgt := 51) dX12_taken_35 (by decide) (fun _ => ?_) (fun c252 => absurd (by decide) c252)
          refine JJ_iload_n dX12_taken_51 rfl rfl ?_
          refine JJ_iload_n dX12_taken_52 rfl rfl ?_
          refine JJ_icmp_ne (tgt := 65) dX12_taken_53 (by decide) (fun _ => ?_) (fun c253 => absurd c253 (by decide))
          refine JJ_bipush (v := (-13)) dX12_taken_65 rfl ?_
          refine JJ_iret dX12_taken_67 rfl ?_
          exact ans_i (by rw [e0, if_neg (by decide)])
      · skip
        rcases hdx with rfl | rfl | rfl | rfl | rfl | rfl <;> skip
        · skip
          refine JJ_aload_n dX12_taken_26 rfl rfl ?_
          refine JJ_getr (q := o + 8) (cis := [12]) (k := 12) fa_X12_35 (by decide) hR.1 rfl (hR.2 (12, 8, 20, 6) (by decide)).1 dX12_taken_27 ?_
          refine JJ_iload_n dX12_taken_30 rfl rfl ?_
          refine JJ_ialdX (v := 0) (hR.2 (12, 8, 20, 6) (by decide)).2 (IX_nI (by omega) (by omega)) (hN.2.1 8 _ (by decide) (by decide)) hxM dX12_taken_31 ?_
          refine JJ_istore_n (lv' := [(3, .int 0), (0, .ref o), (1, .int (nI q)), (2, .int 4)]) dX12_taken_32 rfl (by decide) rfl ?_
          refine JJ_iload_n dX12_taken_33 rfl rfl ?_
          refine JJ_iconst (v := (-1)) dX12_taken_34 rfl ?_
          refine JJ_icmp_eq (tgt := 51) dX12_taken_35 (by decide) (fun c254 => absurd c254 (by decide)) (fun _ => ?_)
          refine JJ_iload_n dX12_taken_38 rfl rfl ?_
          refine JJ_iload_n dX12_taken_39 rfl rfl ?_
          refine JJ_icmp_eq (tgt := 51) dX12_taken_40 (by decide) (fun c255 => absurd c255 (by decide)) (fun _ => ?_)
          refine JJ_iload_n dX12_taken_43 rfl rfl ?_
          refine JJ_callS (rest := []) (kr_over (x := 0)) (by decide) mi_X12_over lk_X12_375 rfl (Nat.le_of_ble_eq_true rfl) rfl rfl dX12_taken_44 ?_
          intro v256 μ257 h258
          obtain ⟨rfl, rfl⟩ := h258
          refine JJ_r1 ?_
          refine JJ_eqi (x2 := (-1)) (by decide) ?_
          refine JJ_istore_n (lv' := [(3, .int ((-1))), (0, .ref o), (1, .int (nI q)), (2, .int 4)]) dX12_taken_47 rfl (by decide) rfl ?_
          refine JJ_goto (tgt := 33) dX12_taken_48 (by decide) ?_
          refine JJ_iload_n dX12_taken_33 rfl rfl ?_
          refine JJ_iconst (v := (-1)) dX12_taken_34 rfl ?_
          refine JJ_icmp_eq (tgt := 51) dX12_taken_35 (by decide) (fun _ => ?_) (fun c259 => absurd (by decide) c259)
          refine JJ_iload_n dX12_taken_51 rfl rfl ?_
          refine JJ_iload_n dX12_taken_52 rfl rfl ?_
          refine JJ_icmp_ne (tgt := 65) dX12_taken_53 (by decide) (fun _ => ?_) (fun c260 => absurd c260 (by decide))
          refine JJ_bipush (v := (-13)) dX12_taken_65 rfl ?_
          refine JJ_iret dX12_taken_67 rfl ?_
          exact ans_i (by rw [e0, if_neg (by decide)])
        · skip
          refine JJ_aload_n dX12_taken_26 rfl rfl ?_
          refine JJ_getr (q := o + 8) (cis := [12]) (k := 12) fa_X12_35 (by decide) hR.1 rfl (hR.2 (12, 8, 20, 6) (by decide)).1 dX12_taken_27 ?_
          refine JJ_iload_n dX12_taken_30 rfl rfl ?_
          refine JJ_ialdX (v := 1) (hR.2 (12, 8, 20, 6) (by decide)).2 (IX_nI (by omega) (by omega)) (hN.2.1 8 _ (by decide) (by decide)) hxM dX12_taken_31 ?_
          refine JJ_istore_n (lv' := [(3, .int 1), (0, .ref o), (1, .int (nI q)), (2, .int 4)]) dX12_taken_32 rfl (by decide) rfl ?_
          refine JJ_iload_n dX12_taken_33 rfl rfl ?_
          refine JJ_iconst (v := (-1)) dX12_taken_34 rfl ?_
          refine JJ_icmp_eq (tgt := 51) dX12_taken_35 (by decide) (fun c261 => absurd c261 (by decide)) (fun _ => ?_)
          refine JJ_iload_n dX12_taken_38 rfl rfl ?_
          refine JJ_iload_n dX12_taken_39 rfl rfl ?_
          refine JJ_icmp_eq (tgt := 51) dX12_taken_40 (by decide) (fun c262 => absurd c262 (by decide)) (fun _ => ?_)
          refine JJ_iload_n dX12_taken_43 rfl rfl ?_
          refine JJ_callS (rest := []) (kr_over (x := 1)) (by decide) mi_X12_over lk_X12_375 rfl (Nat.le_of_ble_eq_true rfl) rfl rfl dX12_taken_44 ?_
          intro v263 μ264 h265
          obtain ⟨rfl, rfl⟩ := h265
          refine JJ_r1 ?_
          refine JJ_eqi (x2 := 0) (by decide) ?_
          refine JJ_istore_n (lv' := [(3, .int 0), (0, .ref o), (1, .int (nI q)), (2, .int 4)]) dX12_taken_47 rfl (by decide) rfl ?_
          refine JJ_goto (tgt := 33) dX12_taken_48 (by decide) ?_
          refine JJ_iload_n dX12_taken_33 rfl rfl ?_
          refine JJ_iconst (v := (-1)) dX12_taken_34 rfl ?_
          refine JJ_icmp_eq (tgt := 51) dX12_taken_35 (by decide) (fun c266 => absurd c266 (by decide)) (fun _ => ?_)
          refine JJ_iload_n dX12_taken_38 rfl rfl ?_
          refine JJ_iload_n dX12_taken_39 rfl rfl ?_
          refine JJ_icmp_eq (tgt := 51) dX12_taken_40 (by decide) (fun c267 => absurd c267 (by decide)) (fun _ => ?_)
          refine JJ_iload_n dX12_taken_43 rfl rfl ?_
          refine JJ_callS (rest := []) (kr_over (x := 0)) (by decide) mi_X12_over lk_X12_375 rfl (Nat.le_of_ble_eq_true rfl) rfl rfl dX12_taken_44 ?_
          intro v268 μ269 h270
          obtain ⟨rfl, rfl⟩ := h270
          refine JJ_r1 ?_
          refine JJ_eqi (x2 := (-1)) (by decide) ?_
          refine JJ_istore_n (lv' := [(3, .int ((-1))), (0, .ref o), (1, .int (nI q)), (2, .int 4)]) dX12_taken_47 rfl (by decide) rfl ?_
          refine JJ_goto (tgt := 33) dX12_taken_48 (by decide) ?_
          refine JJ_iload_n dX12_taken_33 rfl rfl ?_
          refine JJ_iconst (v := (-1)) dX12_taken_34 rfl ?_
          refine JJ_icmp_eq (tgt := 51) dX12_taken_35 (by decide) (fun _ => ?_) (fun c271 => absurd (by decide) c271)
          refine JJ_iload_n dX12_taken_51 rfl rfl ?_
          refine JJ_iload_n dX12_taken_52 rfl rfl ?_
          refine JJ_icmp_ne (tgt := 65) dX12_taken_53 (by decide) (fun _ => ?_) (fun c272 => absurd c272 (by decide))
          refine JJ_bipush (v := (-13)) dX12_taken_65 rfl ?_
          refine JJ_iret dX12_taken_67 rfl ?_
          exact ans_i (by rw [e0, if_neg (by decide)])
        · skip
          refine JJ_aload_n dX12_taken_26 rfl rfl ?_
          refine JJ_getr (q := o + 8) (cis := [12]) (k := 12) fa_X12_35 (by decide) hR.1 rfl (hR.2 (12, 8, 20, 6) (by decide)).1 dX12_taken_27 ?_
          refine JJ_iload_n dX12_taken_30 rfl rfl ?_
          refine JJ_ialdX (v := 2) (hR.2 (12, 8, 20, 6) (by decide)).2 (IX_nI (by omega) (by omega)) (hN.2.1 8 _ (by decide) (by decide)) hxM dX12_taken_31 ?_
          refine JJ_istore_n (lv' := [(3, .int 2), (0, .ref o), (1, .int (nI q)), (2, .int 4)]) dX12_taken_32 rfl (by decide) rfl ?_
          refine JJ_iload_n dX12_taken_33 rfl rfl ?_
          refine JJ_iconst (v := (-1)) dX12_taken_34 rfl ?_
          refine JJ_icmp_eq (tgt := 51) dX12_taken_35 (by decide) (fun c273 => absurd c273 (by decide)) (fun _ => ?_)
          refine JJ_iload_n dX12_taken_38 rfl rfl ?_
          refine JJ_iload_n dX12_taken_39 rfl rfl ?_
          refine JJ_icmp_eq (tgt := 51) dX12_taken_40 (by decide) (fun c274 => absurd c274 (by decide)) (fun _ => ?_)
          refine JJ_iload_n dX12_taken_43 rfl rfl ?_
          refine JJ_callS (rest := []) (kr_over (x := 2)) (by decide) mi_X12_over lk_X12_375 rfl (Nat.le_of_ble_eq_true rfl) rfl rfl dX12_taken_44 ?_
          intro v275 μ276 h277
          obtain ⟨rfl, rfl⟩ := h277
          refine JJ_r1 ?_
          refine JJ_eqi (x2 := 0) (by decide) ?_
          refine JJ_istore_n (lv' := [(3, .int 0), (0, .ref o), (1, .int (nI q)), (2, .int 4)]) dX12_taken_47 rfl (by decide) rfl ?_
          refine JJ_goto (tgt := 33) dX12_taken_48 (by decide) ?_
          refine JJ_iload_n dX12_taken_33 rfl rfl ?_
          refine JJ_iconst (v := (-1)) dX12_taken_34 rfl ?_
          refine JJ_icmp_eq (tgt := 51) dX12_taken_35 (by decide) (fun c278 => absurd c278 (by decide)) (fun _ => ?_)
          refine JJ_iload_n dX12_taken_38 rfl rfl ?_
          refine JJ_iload_n dX12_taken_39 rfl rfl ?_
          refine JJ_icmp_eq (tgt := 51) dX12_taken_40 (by decide) (fun c279 => absurd c279 (by decide)) (fun _ => ?_)
          refine JJ_iload_n dX12_taken_43 rfl rfl ?_
          refine JJ_callS (rest := []) (kr_over (x := 0)) (by decide) mi_X12_over lk_X12_375 rfl (Nat.le_of_ble_eq_true rfl) rfl rfl dX12_taken_44 ?_
          intro v280 μ281 h282
          obtain ⟨rfl, rfl⟩ := h282
          refine JJ_r1 ?_
          refine JJ_eqi (x2 := (-1)) (by decide) ?_
          refine JJ_istore_n (lv' := [(3, .int ((-1))), (0, .ref o), (1, .int (nI q)), (2, .int 4)]) dX12_taken_47 rfl (by decide) rfl ?_
          refine JJ_goto (tgt := 33) dX12_taken_48 (by decide) ?_
          refine JJ_iload_n dX12_taken_33 rfl rfl ?_
          refine JJ_iconst (v := (-1)) dX12_taken_34 rfl ?_
          refine JJ_icmp_eq (tgt := 51) dX12_taken_35 (by decide) (fun _ => ?_) (fun c283 => absurd (by decide) c283)
          refine JJ_iload_n dX12_taken_51 rfl rfl ?_
          refine JJ_iload_n dX12_taken_52 rfl rfl ?_
          refine JJ_icmp_ne (tgt := 65) dX12_taken_53 (by decide) (fun _ => ?_) (fun c284 => absurd c284 (by decide))
          refine JJ_bipush (v := (-13)) dX12_taken_65 rfl ?_
          refine JJ_iret dX12_taken_67 rfl ?_
          exact ans_i (by rw [e0, if_neg (by decide)])
        · skip
          refine JJ_aload_n dX12_taken_26 rfl rfl ?_
          refine JJ_getr (q := o + 8) (cis := [12]) (k := 12) fa_X12_35 (by decide) hR.1 rfl (hR.2 (12, 8, 20, 6) (by decide)).1 dX12_taken_27 ?_
          refine JJ_iload_n dX12_taken_30 rfl rfl ?_
          refine JJ_ialdX (v := 3) (hR.2 (12, 8, 20, 6) (by decide)).2 (IX_nI (by omega) (by omega)) (hN.2.1 8 _ (by decide) (by decide)) hxM dX12_taken_31 ?_
          refine JJ_istore_n (lv' := [(3, .int 3), (0, .ref o), (1, .int (nI q)), (2, .int 4)]) dX12_taken_32 rfl (by decide) rfl ?_
          refine JJ_iload_n dX12_taken_33 rfl rfl ?_
          refine JJ_iconst (v := (-1)) dX12_taken_34 rfl ?_
          refine JJ_icmp_eq (tgt := 51) dX12_taken_35 (by decide) (fun c285 => absurd c285 (by decide)) (fun _ => ?_)
          refine JJ_iload_n dX12_taken_38 rfl rfl ?_
          refine JJ_iload_n dX12_taken_39 rfl rfl ?_
          refine JJ_icmp_eq (tgt := 51) dX12_taken_40 (by decide) (fun c286 => absurd c286 (by decide)) (fun _ => ?_)
          refine JJ_iload_n dX12_taken_43 rfl rfl ?_
          refine JJ_callS (rest := []) (kr_over (x := 3)) (by decide) mi_X12_over lk_X12_375 rfl (Nat.le_of_ble_eq_true rfl) rfl rfl dX12_taken_44 ?_
          intro v287 μ288 h289
          obtain ⟨rfl, rfl⟩ := h289
          refine JJ_r1 ?_
          refine JJ_eqi (x2 := 1) (by decide) ?_
          refine JJ_istore_n (lv' := [(3, .int 1), (0, .ref o), (1, .int (nI q)), (2, .int 4)]) dX12_taken_47 rfl (by decide) rfl ?_
          refine JJ_goto (tgt := 33) dX12_taken_48 (by decide) ?_
          refine JJ_iload_n dX12_taken_33 rfl rfl ?_
          refine JJ_iconst (v := (-1)) dX12_taken_34 rfl ?_
          refine JJ_icmp_eq (tgt := 51) dX12_taken_35 (by decide) (fun c290 => absurd c290 (by decide)) (fun _ => ?_)
          refine JJ_iload_n dX12_taken_38 rfl rfl ?_
          refine JJ_iload_n dX12_taken_39 rfl rfl ?_
          refine JJ_icmp_eq (tgt := 51) dX12_taken_40 (by decide) (fun c291 => absurd c291 (by decide)) (fun _ => ?_)
          refine JJ_iload_n dX12_taken_43 rfl rfl ?_
          refine JJ_callS (rest := []) (kr_over (x := 1)) (by decide) mi_X12_over lk_X12_375 rfl (Nat.le_of_ble_eq_true rfl) rfl rfl dX12_taken_44 ?_
          intro v292 μ293 h294
          obtain ⟨rfl, rfl⟩ := h294
          refine JJ_r1 ?_
          refine JJ_eqi (x2 := 0) (by decide) ?_
          refine JJ_istore_n (lv' := [(3, .int 0), (0, .ref o), (1, .int (nI q)), (2, .int 4)]) dX12_taken_47 rfl (by decide) rfl ?_
          refine JJ_goto (tgt := 33) dX12_taken_48 (by decide) ?_
          refine JJ_iload_n dX12_taken_33 rfl rfl ?_
          refine JJ_iconst (v := (-1)) dX12_taken_34 rfl ?_
          refine JJ_icmp_eq (tgt := 51) dX12_taken_35 (by decide) (fun c295 => absurd c295 (by decide)) (fun _ => ?_)
          refine JJ_iload_n dX12_taken_38 rfl rfl ?_
          refine JJ_iload_n dX12_taken_39 rfl rfl ?_
          refine JJ_icmp_eq (tgt := 51) dX12_taken_40 (by decide) (fun c296 => absurd c296 (by decide)) (fun _ => ?_)
          refine JJ_iload_n dX12_taken_43 rfl rfl ?_
          refine JJ_callS (rest := []) (kr_over (x := 0)) (by decide) mi_X12_over lk_X12_375 rfl (Nat.le_of_ble_eq_true rfl) rfl rfl dX12_taken_44 ?_
          intro v297 μ298 h299
          obtain ⟨rfl, rfl⟩ := h299
          refine JJ_r1 ?_
          refine JJ_eqi (x2 := (-1)) (by decide) ?_
          refine JJ_istore_n (lv' := [(3, .int ((-1))), (0, .ref o), (1, .int (nI q)), (2, .int 4)]) dX12_taken_47 rfl (by decide) rfl ?_
          refine JJ_goto (tgt := 33) dX12_taken_48 (by decide) ?_
          refine JJ_iload_n dX12_taken_33 rfl rfl ?_
          refine JJ_iconst (v := (-1)) dX12_taken_34 rfl ?_
          refine JJ_icmp_eq (tgt := 51) dX12_taken_35 (by decide) (fun _ => ?_) (fun c300 => absurd (by decide) c300)
          refine JJ_iload_n dX12_taken_51 rfl rfl ?_
          refine JJ_iload_n dX12_taken_52 rfl rfl ?_
          refine JJ_icmp_ne (tgt := 65) dX12_taken_53 (by decide) (fun _ => ?_) (fun c301 => absurd c301 (by decide))
          refine JJ_bipush (v := (-13)) dX12_taken_65 rfl ?_
          refine JJ_iret dX12_taken_67 rfl ?_
          exact ans_i (by rw [e0, if_neg (by decide)])
        · skip
          refine JJ_aload_n dX12_taken_26 rfl rfl ?_
          refine JJ_getr (q := o + 8) (cis := [12]) (k := 12) fa_X12_35 (by decide) hR.1 rfl (hR.2 (12, 8, 20, 6) (by decide)).1 dX12_taken_27 ?_
          refine JJ_iload_n dX12_taken_30 rfl rfl ?_
          refine JJ_ialdX (v := 4) (hR.2 (12, 8, 20, 6) (by decide)).2 (IX_nI (by omega) (by omega)) (hN.2.1 8 _ (by decide) (by decide)) hxM dX12_taken_31 ?_
          refine JJ_istore_n (lv' := [(3, .int 4), (0, .ref o), (1, .int (nI q)), (2, .int 4)]) dX12_taken_32 rfl (by decide) rfl ?_
          refine JJ_iload_n dX12_taken_33 rfl rfl ?_
          refine JJ_iconst (v := (-1)) dX12_taken_34 rfl ?_
          refine JJ_icmp_eq (tgt := 51) dX12_taken_35 (by decide) (fun c302 => absurd c302 (by decide)) (fun _ => ?_)
          refine JJ_iload_n dX12_taken_38 rfl rfl ?_
          refine JJ_iload_n dX12_taken_39 rfl rfl ?_
          refine JJ_icmp_eq (tgt := 51) dX12_taken_40 (by decide) (fun _ => ?_) (fun c303 => absurd (by decide) c303)
          refine JJ_iload_n dX12_taken_51 rfl rfl ?_
          refine JJ_iload_n dX12_taken_52 rfl rfl ?_
          refine JJ_icmp_ne (tgt := 65) dX12_taken_53 (by decide) (fun c304 => absurd (by decide) c304) (fun _ => ?_)
          refine JJ_aload_n dX12_taken_56 rfl rfl ?_
          refine JJ_getr (q := o + 9) (cis := [12]) (k := 13) fa_X12_38 (by decide) hR.1 rfl (hR.2 (13, 9, 20, 6) (by decide)).1 dX12_taken_57 ?_
          refine JJ_iload_n dX12_taken_60 rfl rfl ?_
          refine JJ_ialdX (v := A.1 6 q) (hR.2 (13, 9, 20, 6) (by decide)).2 (IX_nI (by omega) (by omega)) (hN.2.1 9 _ (by decide) (by decide)) (hA.c9 hq6) dX12_taken_61 ?_
          refine JJ_goto (tgt := 67) dX12_taken_62 (by decide) ?_
          refine JJ_iret dX12_taken_67 rfl ?_
          exact ans_i (by rw [e0, if_pos (by decide)])
        · skip
          refine JJ_aload_n dX12_taken_26 rfl rfl ?_
          refine JJ_getr (q := o + 8) (cis := [12]) (k := 12) fa_X12_35 (by decide) hR.1 rfl (hR.2 (12, 8, 20, 6) (by decide)).1 dX12_taken_27 ?_
          refine JJ_iload_n dX12_taken_30 rfl rfl ?_
          refine JJ_ialdX (v := 5) (hR.2 (12, 8, 20, 6) (by decide)).2 (IX_nI (by omega) (by omega)) (hN.2.1 8 _ (by decide) (by decide)) hxM dX12_taken_31 ?_
          refine JJ_istore_n (lv' := [(3, .int 5), (0, .ref o), (1, .int (nI q)), (2, .int 4)]) dX12_taken_32 rfl (by decide) rfl ?_
          refine JJ_iload_n dX12_taken_33 rfl rfl ?_
          refine JJ_iconst (v := (-1)) dX12_taken_34 rfl ?_
          refine JJ_icmp_eq (tgt := 51) dX12_taken_35 (by decide) (fun c305 => absurd c305 (by decide)) (fun _ => ?_)
          refine JJ_iload_n dX12_taken_38 rfl rfl ?_
          refine JJ_iload_n dX12_taken_39 rfl rfl ?_
          refine JJ_icmp_eq (tgt := 51) dX12_taken_40 (by decide) (fun c306 => absurd c306 (by decide)) (fun _ => ?_)
          refine JJ_iload_n dX12_taken_43 rfl rfl ?_
          refine JJ_callS (rest := []) (kr_over (x := 5)) (by decide) mi_X12_over lk_X12_375 rfl (Nat.le_of_ble_eq_true rfl) rfl rfl dX12_taken_44 ?_
          intro v307 μ308 h309
          obtain ⟨rfl, rfl⟩ := h309
          refine JJ_r1 ?_
          refine JJ_eqi (x2 := 1) (by decide) ?_
          refine JJ_istore_n (lv' := [(3, .int 1), (0, .ref o), (1, .int (nI q)), (2, .int 4)]) dX12_taken_47 rfl (by decide) rfl ?_
          refine JJ_goto (tgt := 33) dX12_taken_48 (by decide) ?_
          refine JJ_iload_n dX12_taken_33 rfl rfl ?_
          refine JJ_iconst (v := (-1)) dX12_taken_34 rfl ?_
          refine JJ_icmp_eq (tgt := 51) dX12_taken_35 (by decide) (fun c310 => absurd c310 (by decide)) (fun _ => ?_)
          refine JJ_iload_n dX12_taken_38 rfl rfl ?_
          refine JJ_iload_n dX12_taken_39 rfl rfl ?_
          refine JJ_icmp_eq (tgt := 51) dX12_taken_40 (by decide) (fun c311 => absurd c311 (by decide)) (fun _ => ?_)
          refine JJ_iload_n dX12_taken_43 rfl rfl ?_
          refine JJ_callS (rest := []) (kr_over (x := 1)) (by decide) mi_X12_over lk_X12_375 rfl (Nat.le_of_ble_eq_true rfl) rfl rfl dX12_taken_44 ?_
          intro v312 μ313 h314
          obtain ⟨rfl, rfl⟩ := h314
          refine JJ_r1 ?_
          refine JJ_eqi (x2 := 0) (by decide) ?_
          refine JJ_istore_n (lv' := [(3, .int 0), (0, .ref o), (1, .int (nI q)), (2, .int 4)]) dX12_taken_47 rfl (by decide) rfl ?_
          refine JJ_goto (tgt := 33) dX12_taken_48 (by decide) ?_
          refine JJ_iload_n dX12_taken_33 rfl rfl ?_
          refine JJ_iconst (v := (-1)) dX12_taken_34 rfl ?_
          refine JJ_icmp_eq (tgt := 51) dX12_taken_35 (by decide) (fun c315 => absurd c315 (by decide)) (fun _ => ?_)
          refine JJ_iload_n dX12_taken_38 rfl rfl ?_
          refine JJ_iload_n dX12_taken_39 rfl rfl ?_
          refine JJ_icmp_eq (tgt := 51) dX12_taken_40 (by decide) (fun c316 => absurd c316 (by decide)) (fun _ => ?_)
          refine JJ_iload_n dX12_taken_43 rfl rfl ?_
          refine JJ_callS (rest := []) (kr_over (x := 0)) (by decide) mi_X12_over lk_X12_375 rfl (Nat.le_of_ble_eq_true rfl) rfl rfl dX12_taken_44 ?_
          intro v317 μ318 h319
          obtain ⟨rfl, rfl⟩ := h319
          refine JJ_r1 ?_
          refine JJ_eqi (x2 := (-1)) (by decide) ?_
          refine JJ_istore_n (lv' := [(3, .int ((-1))), (0, .ref o), (1, .int (nI q)), (2, .int 4)]) dX12_taken_47 rfl (by decide) rfl ?_
          refine JJ_goto (tgt := 33) dX12_taken_48 (by decide) ?_
          refine JJ_iload_n dX12_taken_33 rfl rfl ?_
          refine JJ_iconst (v := (-1)) dX12_taken_34 rfl ?_
          refine JJ_icmp_eq (tgt := 51) dX12_taken_35 (by decide) (fun _ => ?_) (fun c320 => absurd (by decide) c320)
          refine JJ_iload_n dX12_taken_51 rfl rfl ?_
          refine JJ_iload_n dX12_taken_52 rfl rfl ?_
          refine JJ_icmp_ne (tgt := 65) dX12_taken_53 (by decide) (fun _ => ?_) (fun c321 => absurd c321 (by decide))
          refine JJ_bipush (v := (-13)) dX12_taken_65 rfl ?_
          refine JJ_iret dX12_taken_67 rfl ?_
          exact ans_i (by rw [e0, if_neg (by decide)])
      · skip
        rcases hdx with rfl | rfl | rfl | rfl | rfl | rfl <;> skip
        · skip
          refine JJ_aload_n dX12_taken_26 rfl rfl ?_
          refine JJ_getr (q := o + 8) (cis := [12]) (k := 12) fa_X12_35 (by decide) hR.1 rfl (hR.2 (12, 8, 20, 6) (by decide)).1 dX12_taken_27 ?_
          refine JJ_iload_n dX12_taken_30 rfl rfl ?_
          refine JJ_ialdX (v := 0) (hR.2 (12, 8, 20, 6) (by decide)).2 (IX_nI (by omega) (by omega)) (hN.2.1 8 _ (by decide) (by decide)) hxM dX12_taken_31 ?_
          refine JJ_istore_n (lv' := [(3, .int 0), (0, .ref o), (1, .int (nI q)), (2, .int 5)]) dX12_taken_32 rfl (by decide) rfl ?_
          refine JJ_iload_n dX12_taken_33 rfl rfl ?_
          refine JJ_iconst (v := (-1)) dX12_taken_34 rfl ?_
          refine JJ_icmp_eq (tgt := 51) dX12_taken_35 (by decide) (fun c322 => absurd c322 (by decide)) (fun _ => ?_)
          refine JJ_iload_n dX12_taken_38 rfl rfl ?_
          refine JJ_iload_n dX12_taken_39 rfl rfl ?_
          refine JJ_icmp_eq (tgt := 51) dX12_taken_40 (by decide) (fun c323 => absurd c323 (by decide)) (fun _ => ?_)
          refine JJ_iload_n dX12_taken_43 rfl rfl ?_
          refine JJ_callS (rest := []) (kr_over (x := 0)) (by decide) mi_X12_over lk_X12_375 rfl (Nat.le_of_ble_eq_true rfl) rfl rfl dX12_taken_44 ?_
          intro v324 μ325 h326
          obtain ⟨rfl, rfl⟩ := h326
          refine JJ_r1 ?_
          refine JJ_eqi (x2 := (-1)) (by decide) ?_
          refine JJ_istore_n (lv' := [(3, .int ((-1))), (0, .ref o), (1, .int (nI q)), (2, .int 5)]) dX12_taken_47 rfl (by decide) rfl ?_
          refine JJ_goto (tgt := 33) dX12_taken_48 (by decide) ?_
          refine JJ_iload_n dX12_taken_33 rfl rfl ?_
          refine JJ_iconst (v := (-1)) dX12_taken_34 rfl ?_
          refine JJ_icmp_eq (tgt := 51) dX12_taken_35 (by decide) (fun _ => ?_) (fun c327 => absurd (by decide) c327)
          refine JJ_iload_n dX12_taken_51 rfl rfl ?_
          refine JJ_iload_n dX12_taken_52 rfl rfl ?_
          refine JJ_icmp_ne (tgt := 65) dX12_taken_53 (by decide) (fun _ => ?_) (fun c328 => absurd c328 (by decide))
          refine JJ_bipush (v := (-13)) dX12_taken_65 rfl ?_
          refine JJ_iret dX12_taken_67 rfl ?_
          exact ans_i (by rw [e0, if_neg (by decide)])
        · skip
          refine JJ_aload_n dX12_taken_26 rfl rfl ?_
          refine JJ_getr (q := o + 8) (cis := [12]) (k := 12) fa_X12_35 (by decide) hR.1 rfl (hR.2 (12, 8, 20, 6) (by decide)).1 dX12_taken_27 ?_
          refine JJ_iload_n dX12_taken_30 rfl rfl ?_
          refine JJ_ialdX (v := 1) (hR.2 (12, 8, 20, 6) (by decide)).2 (IX_nI (by omega) (by omega)) (hN.2.1 8 _ (by decide) (by decide)) hxM dX12_taken_31 ?_
          refine JJ_istore_n (lv' := [(3, .int 1), (0, .ref o), (1, .int (nI q)), (2, .int 5)]) dX12_taken_32 rfl (by decide) rfl ?_
          refine JJ_iload_n dX12_taken_33 rfl rfl ?_
          refine JJ_iconst (v := (-1)) dX12_taken_34 rfl ?_
          refine JJ_icmp_eq (tgt := 51) dX12_taken_35 (by decide) (fun c329 => absurd c329 (by decide)) (fun _ => ?_)
          refine JJ_iload_n dX12_taken_38 rfl rfl ?_
          refine JJ_iload_n dX12_taken_39 rfl rfl ?_
          refine JJ_icmp_eq (tgt := 51) dX12_taken_40 (by decide) (fun c330 => absurd c330 (by decide)) (fun _ => ?_)
          refine JJ_iload_n dX12_taken_43 rfl rfl ?_
          refine JJ_callS (rest := []) (kr_over (x := 1)) (by decide) mi_X12_over lk_X12_375 rfl (Nat.le_of_ble_eq_true rfl) rfl rfl dX12_taken_44 ?_
          intro v331 μ332 h333
          obtain ⟨rfl, rfl⟩ := h333
          refine JJ_r1 ?_
          refine JJ_eqi (x2 := 0) (by decide) ?_
          refine JJ_istore_n (lv' := [(3, .int 0), (0, .ref o), (1, .int (nI q)), (2, .int 5)]) dX12_taken_47 rfl (by decide) rfl ?_
          refine JJ_goto (tgt := 33) dX12_taken_48 (by decide) ?_
          refine JJ_iload_n dX12_taken_33 rfl rfl ?_
          refine JJ_iconst (v := (-1)) dX12_taken_34 rfl ?_
          refine JJ_icmp_eq (tgt := 51) dX12_taken_35 (by decide) (fun c334 => absurd c334 (by decide)) (fun _ => ?_)
          refine JJ_iload_n dX12_taken_38 rfl rfl ?_
          refine JJ_iload_n dX12_taken_39 rfl rfl ?_
          refine JJ_icmp_eq (tgt := 51) dX12_taken_40 (by decide) (fun c335 => absurd c335 (by decide)) (fun _ => ?_)
          refine JJ_iload_n dX12_taken_43 rfl rfl ?_
          refine JJ_callS (rest := []) (kr_over (x := 0)) (by decide) mi_X12_over lk_X12_375 rfl (Nat.le_of_ble_eq_true rfl) rfl rfl dX12_taken_44 ?_
          intro v336 μ337 h338
          obtain ⟨rfl, rfl⟩ := h338
          refine JJ_r1 ?_
          refine JJ_eqi (x2 := (-1)) (by decide) ?_
          refine JJ_istore_n (lv' := [(3, .int ((-1))), (0, .ref o), (1, .int (nI q)), (2, .int 5)]) dX12_taken_47 rfl (by decide) rfl ?_
          refine JJ_goto (tgt := 33) dX12_taken_48 (by decide) ?_
          refine JJ_iload_n dX12_taken_33 rfl rfl ?_
          refine JJ_iconst (v := (-1)) dX12_taken_34 rfl ?_
          refine JJ_icmp_eq (tgt := 51) dX12_taken_35 (by decide) (fun _ => ?_) (fun c339 => absurd (by decide) c339)
          refine JJ_iload_n dX12_taken_51 rfl rfl ?_
          refine JJ_iload_n dX12_taken_52 rfl rfl ?_
          refine JJ_icmp_ne (tgt := 65) dX12_taken_53 (by decide) (fun _ => ?_) (fun c340 => absurd c340 (by decide))
          refine JJ_bipush (v := (-13)) dX12_taken_65 rfl ?_
          refine JJ_iret dX12_taken_67 rfl ?_
          exact ans_i (by rw [e0, if_neg (by decide)])
        · skip
          refine JJ_aload_n dX12_taken_26 rfl rfl ?_
          refine JJ_getr (q := o + 8) (cis := [12]) (k := 12) fa_X12_35 (by decide) hR.1 rfl (hR.2 (12, 8, 20, 6) (by decide)).1 dX12_taken_27 ?_
          refine JJ_iload_n dX12_taken_30 rfl rfl ?_
          refine JJ_ialdX (v := 2) (hR.2 (12, 8, 20, 6) (by decide)).2 (IX_nI (by omega) (by omega)) (hN.2.1 8 _ (by decide) (by decide)) hxM dX12_taken_31 ?_
          refine JJ_istore_n (lv' := [(3, .int 2), (0, .ref o), (1, .int (nI q)), (2, .int 5)]) dX12_taken_32 rfl (by decide) rfl ?_
          refine JJ_iload_n dX12_taken_33 rfl rfl ?_
          refine JJ_iconst (v := (-1)) dX12_taken_34 rfl ?_
          refine JJ_icmp_eq (tgt := 51) dX12_taken_35 (by decide) (fun c341 => absurd c341 (by decide)) (fun _ => ?_)
          refine JJ_iload_n dX12_taken_38 rfl rfl ?_
          refine JJ_iload_n dX12_taken_39 rfl rfl ?_
          refine JJ_icmp_eq (tgt := 51) dX12_taken_40 (by decide) (fun c342 => absurd c342 (by decide)) (fun _ => ?_)
          refine JJ_iload_n dX12_taken_43 rfl rfl ?_
          refine JJ_callS (rest := []) (kr_over (x := 2)) (by decide) mi_X12_over lk_X12_375 rfl (Nat.le_of_ble_eq_true rfl) rfl rfl dX12_taken_44 ?_
          intro v343 μ344 h345
          obtain ⟨rfl, rfl⟩ := h345
          refine JJ_r1 ?_
          refine JJ_eqi (x2 := 0) (by decide) ?_
          refine JJ_istore_n (lv' := [(3, .int 0), (0, .ref o), (1, .int (nI q)), (2, .int 5)]) dX12_taken_47 rfl (by decide) rfl ?_
          refine JJ_goto (tgt := 33) dX12_taken_48 (by decide) ?_
          refine JJ_iload_n dX12_taken_33 rfl rfl ?_
          refine JJ_iconst (v := (-1)) dX12_taken_34 rfl ?_
          refine JJ_icmp_eq (tgt := 51) dX12_taken_35 (by decide) (fun c346 => absurd c346 (by decide)) (fun _ => ?_)
          refine JJ_iload_n dX12_taken_38 rfl rfl ?_
          refine JJ_iload_n dX12_taken_39 rfl rfl ?_
          refine JJ_icmp_eq (tgt := 51) dX12_taken_40 (by decide) (fun c347 => absurd c347 (by decide)) (fun _ => ?_)
          refine JJ_iload_n dX12_taken_43 rfl rfl ?_
          refine JJ_callS (rest := []) (kr_over (x := 0)) (by decide) mi_X12_over lk_X12_375 rfl (Nat.le_of_ble_eq_true rfl) rfl rfl dX12_taken_44 ?_
          intro v348 μ349 h350
          obtain ⟨rfl, rfl⟩ := h350
          refine JJ_r1 ?_
          refine JJ_eqi (x2 := (-1)) (by decide) ?_
          refine JJ_istore_n (lv' := [(3, .int ((-1))), (0, .ref o), (1, .int (nI q)), (2, .int 5)]) dX12_taken_47 rfl (by decide) rfl ?_
          refine JJ_goto (tgt := 33) dX12_taken_48 (by decide) ?_
          refine JJ_iload_n dX12_taken_33 rfl rfl ?_
          refine JJ_iconst (v := (-1)) dX12_taken_34 rfl ?_
          refine JJ_icmp_eq (tgt := 51) dX12_taken_35 (by decide) (fun _ => ?_) (fun c351 => absurd (by decide) c351)
          refine JJ_iload_n dX12_taken_51 rfl rfl ?_
          refine JJ_iload_n dX12_taken_52 rfl rfl ?_
          refine JJ_icmp_ne (tgt := 65) dX12_taken_53 (by decide) (fun _ => ?_) (fun c352 => absurd c352 (by decide))
          refine JJ_bipush (v := (-13)) dX12_taken_65 rfl ?_
          refine JJ_iret dX12_taken_67 rfl ?_
          exact ans_i (by rw [e0, if_neg (by decide)])
        · skip
          refine JJ_aload_n dX12_taken_26 rfl rfl ?_
          refine JJ_getr (q := o + 8) (cis := [12]) (k := 12) fa_X12_35 (by decide) hR.1 rfl (hR.2 (12, 8, 20, 6) (by decide)).1 dX12_taken_27 ?_
          refine JJ_iload_n dX12_taken_30 rfl rfl ?_
          refine JJ_ialdX (v := 3) (hR.2 (12, 8, 20, 6) (by decide)).2 (IX_nI (by omega) (by omega)) (hN.2.1 8 _ (by decide) (by decide)) hxM dX12_taken_31 ?_
          refine JJ_istore_n (lv' := [(3, .int 3), (0, .ref o), (1, .int (nI q)), (2, .int 5)]) dX12_taken_32 rfl (by decide) rfl ?_
          refine JJ_iload_n dX12_taken_33 rfl rfl ?_
          refine JJ_iconst (v := (-1)) dX12_taken_34 rfl ?_
          refine JJ_icmp_eq (tgt := 51) dX12_taken_35 (by decide) (fun c353 => absurd c353 (by decide)) (fun _ => ?_)
          refine JJ_iload_n dX12_taken_38 rfl rfl ?_
          refine JJ_iload_n dX12_taken_39 rfl rfl ?_
          refine JJ_icmp_eq (tgt := 51) dX12_taken_40 (by decide) (fun c354 => absurd c354 (by decide)) (fun _ => ?_)
          refine JJ_iload_n dX12_taken_43 rfl rfl ?_
          refine JJ_callS (rest := []) (kr_over (x := 3)) (by decide) mi_X12_over lk_X12_375 rfl (Nat.le_of_ble_eq_true rfl) rfl rfl dX12_taken_44 ?_
          intro v355 μ356 h357
          obtain ⟨rfl, rfl⟩ := h357
          refine JJ_r1 ?_
          refine JJ_eqi (x2 := 1) (by decide) ?_
          refine JJ_istore_n (lv' := [(3, .int 1), (0, .ref o), (1, .int (nI q)), (2, .int 5)]) dX12_taken_47 rfl (by decide) rfl ?_
          refine JJ_goto (tgt := 33) dX12_taken_48 (by decide) ?_
          refine JJ_iload_n dX12_taken_33 rfl rfl ?_
          refine JJ_iconst (v := (-1)) dX12_taken_34 rfl ?_
          refine JJ_icmp_eq (tgt := 51) dX12_taken_35 (by decide) (fun c358 => absurd c358 (by decide)) (fun _ => ?_)
          refine JJ_iload_n dX12_taken_38 rfl rfl ?_
          refine JJ_iload_n dX12_taken_39 rfl rfl ?_
          refine JJ_icmp_eq (tgt := 51) dX12_taken_40 (by decide) (fun c359 => absurd c359 (by decide)) (fun _ => ?_)
          refine JJ_iload_n dX12_taken_43 rfl rfl ?_
          refine JJ_callS (rest := []) (kr_over (x := 1)) (by decide) mi_X12_over lk_X12_375 rfl (Nat.le_of_ble_eq_true rfl) rfl rfl dX12_taken_44 ?_
          intro v360 μ361 h362
          obtain ⟨rfl, rfl⟩ := h362
          refine JJ_r1 ?_
          refine JJ_eqi (x2 := 0) (by decide) ?_
          refine JJ_istore_n (lv' := [(3, .int 0), (0, .ref o), (1, .int (nI q)), (2, .int 5)]) dX12_taken_47 rfl (by decide) rfl ?_
          refine JJ_goto (tgt := 33) dX12_taken_48 (by decide) ?_
          refine JJ_iload_n dX12_taken_33 rfl rfl ?_
          refine JJ_iconst (v := (-1)) dX12_taken_34 rfl ?_
          refine JJ_icmp_eq (tgt := 51) dX12_taken_35 (by decide) (fun c363 => absurd c363 (by decide)) (fun _ => ?_)
          refine JJ_iload_n dX12_taken_38 rfl rfl ?_
          refine JJ_iload_n dX12_taken_39 rfl rfl ?_
          refine JJ_icmp_eq (tgt := 51) dX12_taken_40 (by decide) (fun c364 => absurd c364 (by decide)) (fun _ => ?_)
          refine JJ_iload_n dX12_taken_43 rfl rfl ?_
          refine JJ_callS (rest := []) (kr_over (x := 0)) (by decide) mi_X12_over lk_X12_375 rfl (Nat.le_of_ble_eq_true rfl) rfl rfl dX12_taken_44 ?_
          intro v365 μ366 h367
          obtain ⟨rfl, rfl⟩ := h367
          refine JJ_r1 ?_
          refine JJ_eqi (x2 := (-1)) (by decide) ?_
          refine JJ_istore_n (lv' := [(3, .int ((-1))), (0, .ref o), (1, .int (nI q)), (2, .int 5)]) dX12_taken_47 rfl (by decide) rfl ?_
          refine JJ_goto (tgt := 33) dX12_taken_48 (by decide) ?_
          refine JJ_iload_n dX12_taken_33 rfl rfl ?_
          refine JJ_iconst (v := (-1)) dX12_taken_34 rfl ?_
          refine JJ_icmp_eq (tgt := 51) dX12_taken_35 (by decide) (fun _ => ?_) (fun c368 => absurd (by decide) c368)
          refine JJ_iload_n dX12_taken_51 rfl rfl ?_
          refine JJ_iload_n dX12_taken_52 rfl rfl ?_
          refine JJ_icmp_ne (tgt := 65) dX12_taken_53 (by decide) (fun _ => ?_) (fun c369 => absurd c369 (by decide))
          refine JJ_bipush (v := (-13)) dX12_taken_65 rfl ?_
          refine JJ_iret dX12_taken_67 rfl ?_
          exact ans_i (by rw [e0, if_neg (by decide)])
        · skip
          refine JJ_aload_n dX12_taken_26 rfl rfl ?_
          refine JJ_getr (q := o + 8) (cis := [12]) (k := 12) fa_X12_35 (by decide) hR.1 rfl (hR.2 (12, 8, 20, 6) (by decide)).1 dX12_taken_27 ?_
          refine JJ_iload_n dX12_taken_30 rfl rfl ?_
          refine JJ_ialdX (v := 4) (hR.2 (12, 8, 20, 6) (by decide)).2 (IX_nI (by omega) (by omega)) (hN.2.1 8 _ (by decide) (by decide)) hxM dX12_taken_31 ?_
          refine JJ_istore_n (lv' := [(3, .int 4), (0, .ref o), (1, .int (nI q)), (2, .int 5)]) dX12_taken_32 rfl (by decide) rfl ?_
          refine JJ_iload_n dX12_taken_33 rfl rfl ?_
          refine JJ_iconst (v := (-1)) dX12_taken_34 rfl ?_
          refine JJ_icmp_eq (tgt := 51) dX12_taken_35 (by decide) (fun c370 => absurd c370 (by decide)) (fun _ => ?_)
          refine JJ_iload_n dX12_taken_38 rfl rfl ?_
          refine JJ_iload_n dX12_taken_39 rfl rfl ?_
          refine JJ_icmp_eq (tgt := 51) dX12_taken_40 (by decide) (fun c371 => absurd c371 (by decide)) (fun _ => ?_)
          refine JJ_iload_n dX12_taken_43 rfl rfl ?_
          refine JJ_callS (rest := []) (kr_over (x := 4)) (by decide) mi_X12_over lk_X12_375 rfl (Nat.le_of_ble_eq_true rfl) rfl rfl dX12_taken_44 ?_
          intro v372 μ373 h374
          obtain ⟨rfl, rfl⟩ := h374
          refine JJ_r1 ?_
          refine JJ_eqi (x2 := 2) (by decide) ?_
          refine JJ_istore_n (lv' := [(3, .int 2), (0, .ref o), (1, .int (nI q)), (2, .int 5)]) dX12_taken_47 rfl (by decide) rfl ?_
          refine JJ_goto (tgt := 33) dX12_taken_48 (by decide) ?_
          refine JJ_iload_n dX12_taken_33 rfl rfl ?_
          refine JJ_iconst (v := (-1)) dX12_taken_34 rfl ?_
          refine JJ_icmp_eq (tgt := 51) dX12_taken_35 (by decide) (fun c375 => absurd c375 (by decide)) (fun _ => ?_)
          refine JJ_iload_n dX12_taken_38 rfl rfl ?_
          refine JJ_iload_n dX12_taken_39 rfl rfl ?_
          refine JJ_icmp_eq (tgt := 51) dX12_taken_40 (by decide) (fun c376 => absurd c376 (by decide)) (fun _ => ?_)
          refine JJ_iload_n dX12_taken_43 rfl rfl ?_
          refine JJ_callS (rest := []) (kr_over (x := 2)) (by decide) mi_X12_over lk_X12_375 rfl (Nat.le_of_ble_eq_true rfl) rfl rfl dX12_taken_44 ?_
          intro v377 μ378 h379
          obtain ⟨rfl, rfl⟩ := h379
          refine JJ_r1 ?_
          refine JJ_eqi (x2 := 0) (by decide) ?_
          refine JJ_istore_n (lv' := [(3, .int 0), (0, .ref o), (1, .int (nI q)), (2, .int 5)]) dX12_taken_47 rfl (by decide) rfl ?_
          refine JJ_goto (tgt := 33) dX12_taken_48 (by decide) ?_
          refine JJ_iload_n dX12_taken_33 rfl rfl ?_
          refine JJ_iconst (v := (-1)) dX12_taken_34 rfl ?_
          refine JJ_icmp_eq (tgt := 51) dX12_taken_35 (by decide) (fun c380 => absurd c380 (by decide)) (fun _ => ?_)
          refine JJ_iload_n dX12_taken_38 rfl rfl ?_
          refine JJ_iload_n dX12_taken_39 rfl rfl ?_
          refine JJ_icmp_eq (tgt := 51) dX12_taken_40 (by decide) (fun c381 => absurd c381 (by decide)) (fun _ => ?_)
          refine JJ_iload_n dX12_taken_43 rfl rfl ?_
          refine JJ_callS (rest := []) (kr_over (x := 0)) (by decide) mi_X12_over lk_X12_375 rfl (Nat.le_of_ble_eq_true rfl) rfl rfl dX12_taken_44 ?_
          intro v382 μ383 h384
          obtain ⟨rfl, rfl⟩ := h384
          refine JJ_r1 ?_
          refine JJ_eqi (x2 := (-1)) (by decide) ?_
          refine JJ_istore_n (lv' := [(3, .int ((-1))), (0, .ref o), (1, .int (nI q)), (2, .int 5)]) dX12_taken_47 rfl (by decide) rfl ?_
          refine JJ_goto (tgt := 33) dX12_taken_48 (by decide) ?_
          refine JJ_iload_n dX12_taken_33 rfl rfl ?_
          refine JJ_iconst (v := (-1)) dX12_taken_34 rfl ?_
          refine JJ_icmp_eq (tgt := 51) dX12_taken_35 (by decide) (fun _ => ?_) (fun c385 => absurd (by decide) c385)
          refine JJ_iload_n dX12_taken_51 rfl rfl ?_
          refine JJ_iload_n dX12_taken_52 rfl rfl ?_
          refine JJ_icmp_ne (tgt := 65) dX12_taken_53 (by decide) (fun _ => ?_) (fun c386 => absurd c386 (by decide))
          refine JJ_bipush (v := (-13)) dX12_taken_65 rfl ?_
          refine JJ_iret dX12_taken_67 rfl ?_
          exact ans_i (by rw [e0, if_neg (by decide)])
        · skip
          refine JJ_aload_n dX12_taken_26 rfl rfl ?_
          refine JJ_getr (q := o + 8) (cis := [12]) (k := 12) fa_X12_35 (by decide) hR.1 rfl (hR.2 (12, 8, 20, 6) (by decide)).1 dX12_taken_27 ?_
          refine JJ_iload_n dX12_taken_30 rfl rfl ?_
          refine JJ_ialdX (v := 5) (hR.2 (12, 8, 20, 6) (by decide)).2 (IX_nI (by omega) (by omega)) (hN.2.1 8 _ (by decide) (by decide)) hxM dX12_taken_31 ?_
          refine JJ_istore_n (lv' := [(3, .int 5), (0, .ref o), (1, .int (nI q)), (2, .int 5)]) dX12_taken_32 rfl (by decide) rfl ?_
          refine JJ_iload_n dX12_taken_33 rfl rfl ?_
          refine JJ_iconst (v := (-1)) dX12_taken_34 rfl ?_
          refine JJ_icmp_eq (tgt := 51) dX12_taken_35 (by decide) (fun c387 => absurd c387 (by decide)) (fun _ => ?_)
          refine JJ_iload_n dX12_taken_38 rfl rfl ?_
          refine JJ_iload_n dX12_taken_39 rfl rfl ?_
          refine JJ_icmp_eq (tgt := 51) dX12_taken_40 (by decide) (fun _ => ?_) (fun c388 => absurd (by decide) c388)
          refine JJ_iload_n dX12_taken_51 rfl rfl ?_
          refine JJ_iload_n dX12_taken_52 rfl rfl ?_
          refine JJ_icmp_ne (tgt := 65) dX12_taken_53 (by decide) (fun c389 => absurd (by decide) c389) (fun _ => ?_)
          refine JJ_aload_n dX12_taken_56 rfl rfl ?_
          refine JJ_getr (q := o + 9) (cis := [12]) (k := 13) fa_X12_38 (by decide) hR.1 rfl (hR.2 (13, 9, 20, 6) (by decide)).1 dX12_taken_57 ?_
          refine JJ_iload_n dX12_taken_60 rfl rfl ?_
          refine JJ_ialdX (v := A.1 6 q) (hR.2 (13, 9, 20, 6) (by decide)).2 (IX_nI (by omega) (by omega)) (hN.2.1 9 _ (by decide) (by decide)) (hA.c9 hq6) dX12_taken_61 ?_
          refine JJ_goto (tgt := 67) dX12_taken_62 (by decide) ?_
          refine JJ_iret dX12_taken_67 rfl ?_
          exact ans_i (by rw [e0, if_pos (by decide)])
    · skip
      refine JJ_bipush (v := (-11)) dX12_taken_23 rfl ?_
      refine JJ_iret dX12_taken_25 rfl ?_
      exact ans_i ((if_neg (fun z => z (b2_n.mp c4))).trans (if_pos (b2_0.mp c8))).symm
  · skip
    refine JJ_bipush (v := (-2)) dX12_taken_12 rfl ?_
    refine JJ_iret dX12_taken_14 rfl ?_
    exact ans_i (if_pos (fun z => b2_0.mp c4 z)).symm
set_option maxHeartbeats 4000000 in
set_option maxRecDepth 100000 in
theorem kr_needsP {pl way : Int32} {A : Abs} (hA : rABS o M A) (hg2 : RNG2 A) (hR : RWF o S P) (hN : HSR o sc) : KK G sc yX12_needs cX12_needs 3 (some .int) 62 0 0 [.ref o, .int pl, .int way] (n, S, M, L, P) (ansI (zr_needs A pl way) (n, S, M, L, P)) := by
  have hg : RNG A := hg2.1
  refine KK_of2 [(0, .ref o), (1, .int pl), (2, .int way)] (by decide +kernel) (Nat.le_of_ble_eq_true rfl) rfl ?_
  refine JJ_iload_n dX12_needs_0 rfl rfl ?_
  refine JJ_callS (rest := []) (kr_isPlayer (v := pl)) (by decide) mi_X12_isPlayer lk_X12_90 rfl (Nat.le_of_ble_eq_true rfl) rfl rfl dX12_needs_1 ?_
  intro v1 μ2 h3
  obtain ⟨rfl, rfl⟩ := h3
  refine JJ_r1 ?_
  refine JJ_if_eq (tgt := 39) dX12_needs_4 (by decide) (fun c4 => ?_) (fun c4 => ?_)
  · skip
    refine JJ_bipush (v := (-2)) dX12_needs_39 rfl ?_
    refine JJ_iret dX12_needs_41 rfl ?_
    exact ans_i (if_pos (fun z => b2_0.mp c4 z.1)).symm
  · skip
    refine JJ_iload_n dX12_needs_7 rfl rfl ?_
    refine JJ_i2l dX12_needs_8 ?_
    refine JJ_lconst (v := 0) dX12_needs_9 rfl ?_
    refine JJ_ldc2 (v := 2499) dX12_needs_10 tb_1209 ?_
    refine JJ_callS (rest := []) (kr_in32 (v := way) (lo := 0) (hi := 2499) (a := 0) (b := 2499) rfl rfl) (by decide) mi_X12_in lk_X12_82 rfl (Nat.le_of_ble_eq_true rfl) rfl rfl dX12_needs_13 ?_
    intro v5 μ6 h7
    obtain ⟨rfl, rfl⟩ := h7
    refine JJ_r1 ?_
    refine JJ_if_eq (tgt := 39) dX12_needs_16 (by decide) (fun c8 => ?_) (fun c8 => ?_)
    · skip
      refine JJ_bipush (v := (-2)) dX12_needs_39 rfl ?_
      refine JJ_iret dX12_needs_41 rfl ?_
      exact ans_i (if_pos (fun z => b2_0.mp c8 z.2.1)).symm
    · skip
      refine JJ_iload_n dX12_needs_19 rfl rfl ?_
      refine JJ_bipush (v := 100) dX12_needs_20 rfl ?_
      refine JJ_idiv dX12_needs_22 (by decide) ?_
      refine JJ_callS (rest := []) (kr_isCell (v := way / 100)) (by decide) mi_X12_isCell lk_X12_116 rfl (Nat.le_of_ble_eq_true rfl) rfl rfl dX12_needs_23 ?_
      intro v9 μ10 h11
      obtain ⟨rfl, rfl⟩ := h11
      refine JJ_r1 ?_
      refine JJ_if_eq (tgt := 39) dX12_needs_26 (by decide) (fun c12 => ?_) (fun c12 => ?_)
      · skip
        refine JJ_bipush (v := (-2)) dX12_needs_39 rfl ?_
        refine JJ_iret dX12_needs_41 rfl ?_
        exact ans_i (if_pos (fun z => b2_0.mp c12 z.2.2.1)).symm
      · skip
        refine JJ_iload_n dX12_needs_29 rfl rfl ?_
        refine JJ_bipush (v := 100) dX12_needs_30 rfl ?_
        refine JJ_irem dX12_needs_32 (by decide) ?_
        refine JJ_callS (rest := []) (kr_isCell (v := way - way / 100 * 100)) (by decide) mi_X12_isCell lk_X12_116 rfl (Nat.le_of_ble_eq_true rfl) rfl rfl dX12_needs_33 ?_
        intro v13 μ14 h15
        obtain ⟨rfl, rfl⟩ := h15
        refine JJ_r1 ?_
        refine JJ_if_ne (tgt := 42) dX12_needs_36 (by decide) (fun c16 => ?_) (fun c16 => ?_)
        · skip
          obtain ⟨p, hp1, rfl⟩ := n_of (m := 1) (by decide) (b2_n.mp c4)
          refine JJ_aload_n dX12_needs_42 rfl rfl ?_
          refine JJ_iload_n dX12_needs_43 rfl rfl ?_
          refine JJ_iload_n dX12_needs_44 rfl rfl ?_
          refine JJ_bipush (v := 100) dX12_needs_45 rfl ?_
          refine JJ_idiv dX12_needs_47 (by decide) ?_
          refine JJ_iload_n dX12_needs_48 rfl rfl ?_
          refine JJ_bipush (v := 100) dX12_needs_49 rfl ?_
          refine JJ_irem dX12_needs_51 (by decide) ?_
          refine JJ_callV (rest := []) hR.1 rfl rfl (kr_needs (E := (zE A)) (fr := way / 100) (to := way - way / 100 * 100) (by omega) hR hN (hA.rtx hg)) (by decide) mi_X12_needsOf lk_X12_264 rfl (Nat.le_of_ble_eq_true rfl) rfl rfl dX12_needs_52 ?_
          intro v17 μ18 h19
          obtain ⟨rfl, rfl⟩ := h19
          refine JJ_r1 ?_
          refine JJ_eqi (x2 := s_needs (zE A) (A.1 4 0) (A.1 1 p) (A.1 2 p) (way / 100) (way - way / 100 * 100)) (by rw [hA.c11, (hA.c5 (by omega)), (hA.c6 (by omega))]) ?_
          refine JJ_iret dX12_needs_55 rfl ?_
          exact ans_i (by unfold zr_needs; rw [if_neg (fun z => z ⟨b2_n.mp c4, b2_n.mp c8, b2_n.mp c12, b2_n.mp c16⟩), i2n_1 hp1])
        · skip
          refine JJ_bipush (v := (-2)) dX12_needs_39 rfl ?_
          refine JJ_iret dX12_needs_41 rfl ?_
          exact ans_i (if_pos (fun z => b2_0.mp c16 z.2.2.2)).symm
set_option maxHeartbeats 4000000 in
set_option maxRecDepth 100000 in
theorem kr_shot {pl s what : Int32} {A : Abs} (hA : rABS o M A) (hg2 : RNG2 A) (hR : RWF o S P) (hN : HSR o sc) : KK G sc yX12_shot cX12_shot 5 (some .int) 63 0 0 [.ref o, .int pl, .int s, .int what] (n, S, M, L, P) (ansI (zr_shot A pl s what) (n, S, M, L, P)) := by
  have hg : RNG A := hg2.1
  refine KK_of2 [(0, .ref o), (1, .int pl), (2, .int s), (3, .int what)] (by decide +kernel) (Nat.le_of_ble_eq_true rfl) rfl ?_
  refine JJ_iload_n dX12_shot_0 rfl rfl ?_
  refine JJ_callS (rest := []) (kr_isPlayer (v := pl)) (by decide) mi_X12_isPlayer lk_X12_90 rfl (Nat.le_of_ble_eq_true rfl) rfl rfl dX12_shot_1 ?_
  intro v1 μ2 h3
  obtain ⟨rfl, rfl⟩ := h3
  refine JJ_r1 ?_
  refine JJ_if_eq (tgt := 27) dX12_shot_4 (by decide) (fun c4 => ?_) (fun c4 => ?_)
  · skip
    refine JJ_bipush (v := (-2)) dX12_shot_27 rfl ?_
    refine JJ_iret dX12_shot_29 rfl ?_
    exact ans_i (if_pos (fun z => b2_0.mp c4 z.1)).symm
  · skip
    refine JJ_aload_n dX12_shot_7 rfl rfl ?_
    refine JJ_iload_n dX12_shot_8 rfl rfl ?_
    refine JJ_callV (rest := []) hR.1 rfl rfl (kr_isStroke (v := s) hR hN) (by decide) mi_X12_isStroke lk_X12_98 rfl (Nat.le_of_ble_eq_true rfl) rfl rfl dX12_shot_9 ?_
    intro v5 μ6 h7
    obtain ⟨rfl, rfl⟩ := h7
    refine JJ_r1 ?_
    refine JJ_eqi (x2 := b2 (isSk A s)) (b2_c (by show _ ↔ (0 ≤ _ ∧ _ ≤ (A.1 8 0 - 1).toInt); rw [hA.cnt])) ?_
    refine JJ_if_eq (tgt := 27) dX12_shot_12 (by decide) (fun c8 => ?_) (fun c8 => ?_)
    · skip
      refine JJ_bipush (v := (-2)) dX12_shot_27 rfl ?_
      refine JJ_iret dX12_shot_29 rfl ?_
      exact ans_i (if_pos (fun z => b2_0.mp c8 z.2.1)).symm
    · skip
      refine JJ_iload_n dX12_shot_15 rfl rfl ?_
      refine JJ_i2l dX12_shot_16 ?_
      refine JJ_lconst (v := 0) dX12_shot_17 rfl ?_
      refine JJ_ldc2 (v := 4) dX12_shot_18 tb_1098 ?_
      refine JJ_callS (rest := []) (kr_in32 (v := what) (lo := 0) (hi := 4) (a := 0) (b := 4) rfl rfl) (by decide) mi_X12_in lk_X12_82 rfl (Nat.le_of_ble_eq_true rfl) rfl rfl dX12_shot_21 ?_
      intro v9 μ10 h11
      obtain ⟨rfl, rfl⟩ := h11
      refine JJ_r1 ?_
      refine JJ_if_ne (tgt := 30) dX12_shot_24 (by decide) (fun c12 => ?_) (fun c12 => ?_)
      · skip
        obtain ⟨p, hp1, rfl⟩ := n_of (m := 1) (by decide) (b2_n.mp c4)
        have hp : p < 2 := by omega
        obtain ⟨k, hk6, hkc, rfl⟩ := sk_of hg (b2_n.mp c8)
        obtain ⟨q, hq4, rfl⟩ := n_of (m := 4) (by decide) (b2_n.mp c12)
        have e0 : zr_shot A (nI p) (nI k) (nI q) = zsh A p k q := by
          unfold zr_shot
          rw [if_neg (fun z => z ⟨b2_n.mp c4, b2_n.mp c8, b2_n.mp c12⟩), i2n_1 hp1, show i2n (nI k) = k from nI_clamp (by omega), show i2n (nI q) = q from nI_clamp (by omega)]
        have hd : q = 0 ∨ q = 1 ∨ q = 2 ∨ q = 3 ∨ q = 4 := by omega
        rcases hd with rfl | rfl | rfl | rfl | rfl
        · skip
          refine JJ_aload_n dX12_shot_30 rfl rfl ?_
          refine JJ_iload_n dX12_shot_31 rfl rfl ?_
          refine JJ_aload_n dX12_shot_32 rfl rfl ?_
          refine JJ_getr (q := o + 4) (cis := [12]) (k := 7) fa_X12_23 (by decide) hR.1 rfl (hR.2 (7, 4, 20, 2) (by decide)).1 dX12_shot_33 ?_
          refine JJ_iload_n dX12_shot_36 rfl rfl ?_
          refine JJ_ialdX (v := A.1 0 p) (hR.2 (7, 4, 20, 2) (by decide)).2 (IX_nI (by omega) (by omega)) (hN.2.1 4 _ (by decide) (by decide)) (hA.c4 (by omega)) dX12_shot_37 ?_
          refine JJ_callV (rest := []) hR.1 rfl rfl (kr_comes (fr := A.1 0 p) hk6 hR hN) (by decide) mi_X12_comesTo lk_X12_252 rfl (Nat.le_of_ble_eq_true rfl) rfl rfl dX12_shot_38 ?_
          intro v13 μ14 h15
          obtain ⟨rfl, rfl⟩ := h15
          refine JJ_r1 ?_
          refine JJ_eqi (x2 := s_comes (A.1 5 k) (A.1 7 k) (A.1 0 p)) (by rw [(hA.c8 hk6), (hA.c10 hk6)]) ?_
          refine JJ_istore (lv' := [(4, .int (s_comes (A.1 5 k) (A.1 7 k) (A.1 0 p))), (0, .ref o), (1, .int (nI p)), (2, .int (nI k)), (3, .int 0)]) dX12_shot_41 (by decide) rfl ?_
          refine JJ_iload_n dX12_shot_43 rfl rfl ?_
          refine JJ_iconst (v := 3) dX12_shot_44 rfl ?_
          refine JJ_icmp_ge (tgt := 78) dX12_shot_45 (by decide) (fun c16 => absurd c16 (by decide)) (fun _ => ?_)
          refine JJ_iload_n dX12_shot_48 rfl rfl ?_
          refine JJ_if_ne (tgt := 57) dX12_shot_49 (by decide) (fun c17 => absurd (by decide) c17) (fun _ => ?_)
          refine JJ_iload dX12_shot_52 rfl ?_
          refine JJ_goto (tgt := 77) dX12_shot_54 (by decide) ?_
          refine JJ_iret dX12_shot_77 rfl ?_
          exact ans_i (by rw [e0]; rfl)
        · skip
          refine JJ_aload_n dX12_shot_30 rfl rfl ?_
          refine JJ_iload_n dX12_shot_31 rfl rfl ?_
          refine JJ_aload_n dX12_shot_32 rfl rfl ?_
          refine JJ_getr (q := o + 4) (cis := [12]) (k := 7) fa_X12_23 (by decide) hR.1 rfl (hR.2 (7, 4, 20, 2) (by decide)).1 dX12_shot_33 ?_
          refine JJ_iload_n dX12_shot_36 rfl rfl ?_
          refine JJ_ialdX (v := A.1 0 p) (hR.2 (7, 4, 20, 2) (by decide)).2 (IX_nI (by omega) (by omega)) (hN.2.1 4 _ (by decide) (by decide)) (hA.c4 (by omega)) dX12_shot_37 ?_
          refine JJ_callV (rest := []) hR.1 rfl rfl (kr_comes (fr := A.1 0 p) hk6 hR hN) (by decide) mi_X12_comesTo lk_X12_252 rfl (Nat.le_of_ble_eq_true rfl) rfl rfl dX12_shot_38 ?_
          intro v18 μ19 h20
          obtain ⟨rfl, rfl⟩ := h20
          refine JJ_r1 ?_
          refine JJ_eqi (x2 := s_comes (A.1 5 k) (A.1 7 k) (A.1 0 p)) (by rw [(hA.c8 hk6), (hA.c10 hk6)]) ?_
          refine JJ_istore (lv' := [(4, .int (s_comes (A.1 5 k) (A.1 7 k) (A.1 0 p))), (0, .ref o), (1, .int (nI p)), (2, .int (nI k)), (3, .int 1)]) dX12_shot_41 (by decide) rfl ?_
          refine JJ_iload_n dX12_shot_43 rfl rfl ?_
          refine JJ_iconst (v := 3) dX12_shot_44 rfl ?_
          refine JJ_icmp_ge (tgt := 78) dX12_shot_45 (by decide) (fun c21 => absurd c21 (by decide)) (fun _ => ?_)
          refine JJ_iload_n dX12_shot_48 rfl rfl ?_
          refine JJ_if_ne (tgt := 57) dX12_shot_49 (by decide) (fun _ => ?_) (fun c22 => absurd c22 (by decide))
          refine JJ_iload_n dX12_shot_57 rfl rfl ?_
          refine JJ_iconst (v := 1) dX12_shot_58 rfl ?_
          refine JJ_icmp_ne (tgt := 71) dX12_shot_59 (by decide) (fun c23 => absurd (by decide) c23) (fun _ => ?_)
          refine JJ_aload_n dX12_shot_62 rfl rfl ?_
          refine JJ_iload_n dX12_shot_63 rfl rfl ?_
          refine JJ_iload_n dX12_shot_64 rfl rfl ?_
          refine JJ_callV (rest := []) hR.1 rfl rfl (kr_tenths (E := (zE A)) (by omega) hk6 hR hN (hA.rtx hg)) (by decide) mi_X12_tenthsOf lk_X12_267 rfl (Nat.le_of_ble_eq_true rfl) rfl rfl dX12_shot_65 ?_
          intro v24 μ25 h26
          obtain ⟨rfl, rfl⟩ := h26
          refine JJ_r1 ?_
          refine JJ_eqi (x2 := s_tenths (zE A) (A.1 4 0) (A.1 1 p) (A.1 2 p) (A.1 5 k) (A.1 6 k) (A.1 0 p) (s_comes (A.1 5 k) (A.1 7 k) (A.1 0 p))) (by rw [hA.c11, (hA.c5 (by omega)), (hA.c6 (by omega)), (hA.c8 hk6), (hA.c9 hk6), (hA.c10 hk6), (hA.c4 (by omega))]) ?_
          refine JJ_goto (tgt := 77) dX12_shot_68 (by decide) ?_
          refine JJ_iret dX12_shot_77 rfl ?_
          exact ans_i (by rw [e0]; rfl)
        · skip
          refine JJ_aload_n dX12_shot_30 rfl rfl ?_
          refine JJ_iload_n dX12_shot_31 rfl rfl ?_
          refine JJ_aload_n dX12_shot_32 rfl rfl ?_
          refine JJ_getr (q := o + 4) (cis := [12]) (k := 7) fa_X12_23 (by decide) hR.1 rfl (hR.2 (7, 4, 20, 2) (by decide)).1 dX12_shot_33 ?_
          refine JJ_iload_n dX12_shot_36 rfl rfl ?_
          refine JJ_ialdX (v := A.1 0 p) (hR.2 (7, 4, 20, 2) (by decide)).2 (IX_nI (by omega) (by omega)) (hN.2.1 4 _ (by decide) (by decide)) (hA.c4 (by omega)) dX12_shot_37 ?_
          refine JJ_callV (rest := []) hR.1 rfl rfl (kr_comes (fr := A.1 0 p) hk6 hR hN) (by decide) mi_X12_comesTo lk_X12_252 rfl (Nat.le_of_ble_eq_true rfl) rfl rfl dX12_shot_38 ?_
          intro v27 μ28 h29
          obtain ⟨rfl, rfl⟩ := h29
          refine JJ_r1 ?_
          refine JJ_eqi (x2 := s_comes (A.1 5 k) (A.1 7 k) (A.1 0 p)) (by rw [(hA.c8 hk6), (hA.c10 hk6)]) ?_
          refine JJ_istore (lv' := [(4, .int (s_comes (A.1 5 k) (A.1 7 k) (A.1 0 p))), (0, .ref o), (1, .int (nI p)), (2, .int (nI k)), (3, .int 2)]) dX12_shot_41 (by decide) rfl ?_
          refine JJ_iload_n dX12_shot_43 rfl rfl ?_
          refine JJ_iconst (v := 3) dX12_shot_44 rfl ?_
          refine JJ_icmp_ge (tgt := 78) dX12_shot_45 (by decide) (fun c30 => absurd c30 (by decide)) (fun _ => ?_)
          refine JJ_iload_n dX12_shot_48 rfl rfl ?_
          refine JJ_if_ne (tgt := 57) dX12_shot_49 (by decide) (fun _ => ?_) (fun c31 => absurd c31 (by decide))
          refine JJ_iload_n dX12_shot_57 rfl rfl ?_
          refine JJ_iconst (v := 1) dX12_shot_58 rfl ?_
          refine JJ_icmp_ne (tgt := 71) dX12_shot_59 (by decide) (fun _ => ?_) (fun c32 => absurd c32 (by decide))
          refine JJ_aload_n dX12_shot_71 rfl rfl ?_
          refine JJ_iload_n dX12_shot_72 rfl rfl ?_
          refine JJ_iload_n dX12_shot_73 rfl rfl ?_
          refine JJ_callV (rest := []) hR.1 rfl rfl (kr_slips (E := zE A) (k := k) (p := p) (by omega) hk6 hR hN (hA.rtx hg)) (by decide) mi_X12_slipsOf lk_X12_270 rfl (Nat.le_of_ble_eq_true rfl) rfl rfl dX12_shot_74 ?_
          intro v33 μ34 h35
          obtain ⟨rfl, rfl⟩ := h35
          refine JJ_r1 ?_
          refine JJ_eqi (x2 := s_slips (zE A) (A.1 4 0) (A.1 1 p) (A.1 2 p) (A.1 6 k) (A.1 0 p) (s_comes (A.1 5 k) (A.1 7 k) (A.1 0 p))) (by rw [hA.c11, hA.c5 hp, hA.c6 hp, hA.c9 hk6, hA.c4 hp, hA.c8 hk6, hA.c10 hk6]) ?_
          refine JJ_iret dX12_shot_77 rfl ?_
          exact ans_i (by rw [e0]; rfl)
        · skip
          refine JJ_aload_n dX12_shot_30 rfl rfl ?_
          refine JJ_iload_n dX12_shot_31 rfl rfl ?_
          refine JJ_aload_n dX12_shot_32 rfl rfl ?_
          refine JJ_getr (q := o + 4) (cis := [12]) (k := 7) fa_X12_23 (by decide) hR.1 rfl (hR.2 (7, 4, 20, 2) (by decide)).1 dX12_shot_33 ?_
          refine JJ_iload_n dX12_shot_36 rfl rfl ?_
          refine JJ_ialdX (v := A.1 0 p) (hR.2 (7, 4, 20, 2) (by decide)).2 (IX_nI (by omega) (by omega)) (hN.2.1 4 _ (by decide) (by decide)) (hA.c4 (by omega)) dX12_shot_37 ?_
          refine JJ_callV (rest := []) hR.1 rfl rfl (kr_comes (fr := A.1 0 p) hk6 hR hN) (by decide) mi_X12_comesTo lk_X12_252 rfl (Nat.le_of_ble_eq_true rfl) rfl rfl dX12_shot_38 ?_
          intro v36 μ37 h38
          obtain ⟨rfl, rfl⟩ := h38
          refine JJ_r1 ?_
          refine JJ_eqi (x2 := s_comes (A.1 5 k) (A.1 7 k) (A.1 0 p)) (by rw [(hA.c8 hk6), (hA.c10 hk6)]) ?_
          refine JJ_istore (lv' := [(4, .int (s_comes (A.1 5 k) (A.1 7 k) (A.1 0 p))), (0, .ref o), (1, .int (nI p)), (2, .int (nI k)), (3, .int 3)]) dX12_shot_41 (by decide) rfl ?_
          refine JJ_iload_n dX12_shot_43 rfl rfl ?_
          refine JJ_iconst (v := 3) dX12_shot_44 rfl ?_
          refine JJ_icmp_ge (tgt := 78) dX12_shot_45 (by decide) (fun _ => ?_) (fun c39 => absurd (by decide) c39)
          refine JJ_iload_n dX12_shot_78 rfl rfl ?_
          refine JJ_iconst (v := 3) dX12_shot_79 rfl ?_
          refine JJ_icmp_ne (tgt := 91) dX12_shot_80 (by decide) (fun c40 => absurd (by decide) c40) (fun _ => ?_)
          refine JJ_aload_n dX12_shot_83 rfl rfl ?_
          refine JJ_iload_n dX12_shot_84 rfl rfl ?_
          refine JJ_callV (rest := []) hR.1 rfl rfl (kr_spends hk6 hR hN) (by decide) mi_X12_spendsOf lk_X12_273 rfl (Nat.le_of_ble_eq_true rfl) rfl rfl dX12_shot_85 ?_
          intro v41 μ42 h43
          obtain ⟨rfl, rfl⟩ := h43
          refine JJ_r1 ?_
          refine JJ_eqi (x2 := s_spends (A.1 5 k) (A.1 6 k)) (by rw [(hA.c8 hk6), (hA.c9 hk6)]) ?_
          refine JJ_goto (tgt := 108) dX12_shot_88 (by decide) ?_
          refine JJ_iret dX12_shot_108 rfl ?_
          exact ans_i (by rw [e0]; rfl)
        · skip
          refine JJ_aload_n dX12_shot_30 rfl rfl ?_
          refine JJ_iload_n dX12_shot_31 rfl rfl ?_
          refine JJ_aload_n dX12_shot_32 rfl rfl ?_
          refine JJ_getr (q := o + 4) (cis := [12]) (k := 7) fa_X12_23 (by decide) hR.1 rfl (hR.2 (7, 4, 20, 2) (by decide)).1 dX12_shot_33 ?_
          refine JJ_iload_n dX12_shot_36 rfl rfl ?_
          refine JJ_ialdX (v := A.1 0 p) (hR.2 (7, 4, 20, 2) (by decide)).2 (IX_nI (by omega) (by omega)) (hN.2.1 4 _ (by decide) (by decide)) (hA.c4 (by omega)) dX12_shot_37 ?_
          refine JJ_callV (rest := []) hR.1 rfl rfl (kr_comes (fr := A.1 0 p) hk6 hR hN) (by decide) mi_X12_comesTo lk_X12_252 rfl (Nat.le_of_ble_eq_true rfl) rfl rfl dX12_shot_38 ?_
          intro v44 μ45 h46
          obtain ⟨rfl, rfl⟩ := h46
          refine JJ_r1 ?_
          refine JJ_eqi (x2 := s_comes (A.1 5 k) (A.1 7 k) (A.1 0 p)) (by rw [(hA.c8 hk6), (hA.c10 hk6)]) ?_
          refine JJ_istore (lv' := [(4, .int (s_comes (A.1 5 k) (A.1 7 k) (A.1 0 p))), (0, .ref o), (1, .int (nI p)), (2, .int (nI k)), (3, .int 4)]) dX12_shot_41 (by decide) rfl ?_
          refine JJ_iload_n dX12_shot_43 rfl rfl ?_
          refine JJ_iconst (v := 3) dX12_shot_44 rfl ?_
          refine JJ_icmp_ge (tgt := 78) dX12_shot_45 (by decide) (fun _ => ?_) (fun c47 => absurd (by decide) c47)
          refine JJ_iload_n dX12_shot_78 rfl rfl ?_
          refine JJ_iconst (v := 3) dX12_shot_79 rfl ?_
          refine JJ_icmp_ne (tgt := 91) dX12_shot_80 (by decide) (fun _ => ?_) (fun c48 => absurd c48 (by decide))
          refine JJ_aload_n dX12_shot_91 rfl rfl ?_
          refine JJ_iconst (v := 1) dX12_shot_92 rfl ?_
          refine JJ_iload_n dX12_shot_93 rfl rfl ?_
          refine JJ_isub dX12_shot_94 ?_
          refine JJ_eqi (x2 := nI (1 - p)) (e_sub1 hp) ?_
          refine JJ_aload_n dX12_shot_95 rfl rfl ?_
          refine JJ_getr (q := o + 4) (cis := [12]) (k := 7) fa_X12_23 (by decide) hR.1 rfl (hR.2 (7, 4, 20, 2) (by decide)).1 dX12_shot_96 ?_
          refine JJ_iconst (v := 1) dX12_shot_99 rfl ?_
          refine JJ_iload_n dX12_shot_100 rfl rfl ?_
          refine JJ_isub dX12_shot_101 ?_
          refine JJ_eqi (x2 := nI (1 - p)) (e_sub1 hp) ?_
          refine JJ_ialdX (v := A.1 0 (1 - p)) (hR.2 (7, 4, 20, 2) (by decide)).2 (IX_nI (by omega) (by omega)) (hN.2.1 4 _ (by decide) (by decide)) (hA.c4 (by omega)) dX12_shot_102 ?_
          refine JJ_iload dX12_shot_103 rfl ?_
          refine JJ_callV (rest := []) hR.1 rfl rfl (kr_needs (E := (zE A)) (fr := A.1 0 (1 - p)) (to := s_comes (A.1 5 k) (A.1 7 k) (A.1 0 p)) (by omega) hR hN (hA.rtx hg)) (by decide) mi_X12_needsOf lk_X12_264 rfl (Nat.le_of_ble_eq_true rfl) rfl rfl dX12_shot_105 ?_
          intro v49 μ50 h51
          obtain ⟨rfl, rfl⟩ := h51
          refine JJ_r1 ?_
          refine JJ_eqi (x2 := s_needs (zE A) (A.1 4 0) (A.1 1 (1 - p)) (A.1 2 (1 - p)) (A.1 0 (1 - p)) (s_comes (A.1 5 k) (A.1 7 k) (A.1 0 p))) (by rw [hA.c11, (hA.c5 (by omega)), (hA.c6 (by omega))]) ?_
          refine JJ_iret dX12_shot_108 rfl ?_
          exact ans_i (by rw [e0]; rfl)
      · skip
        refine JJ_bipush (v := (-2)) dX12_shot_27 rfl ?_
        refine JJ_iret dX12_shot_29 rfl ?_
        exact ans_i (if_pos (fun z => b2_0.mp c12 z.2.2)).symm
set_option maxHeartbeats 4000000 in
set_option maxRecDepth 100000 in
theorem kr_feed {b : Int32} {A : Abs} (hA : rABS o M A) (hg2 : RNG2 A) (hR : RWF o S P) (hN : HSR o sc) : KK G sc yX12_feed cX12_feed 2 (some .int) 3 0 0 [.ref o, .int b] (n, S, M, L, P) (zI o n S M P (zr_feed A b).1 (zr_feed A b).2) := by
  have hg : RNG A := hg2.1
  refine KK_of2 [(0, .ref o), (1, .int b)] (by decide +kernel) (Nat.le_of_ble_eq_true rfl) rfl ?_
  refine JJ_iload_n dX12_feed_0 rfl rfl ?_
  refine JJ_i2l dX12_feed_1 ?_
  refine JJ_lconst (v := 0) dX12_feed_2 rfl ?_
  refine JJ_ldc2 (v := 255) dX12_feed_3 tb_1125 ?_
  refine JJ_callS (rest := []) (kr_in32 (v := b) (lo := 0) (hi := 255) (a := 0) (b := 255) rfl rfl) (by decide) mi_X12_in lk_X12_82 rfl (Nat.le_of_ble_eq_true rfl) rfl rfl dX12_feed_6 ?_
  intro v1 μ2 h3
  obtain ⟨rfl, rfl⟩ := h3
  refine JJ_r1 ?_
  refine JJ_if_ne (tgt := 15) dX12_feed_9 (by decide) (fun c4 => ?_) (fun c4 => ?_)
  · skip
    obtain ⟨m, hm160, hm⟩ := hg2.2.2.2.2.1
    have hmM : M o 6 = nI m := hA.tsz.trans hm
    have hmi : i2n (A.1 12 0) = m := by rw [hm]; exact nI_clamp (by omega)
    refine JJ_aload_n dX12_feed_15 rfl rfl ?_
    refine JJ_geti (v := nI m) (cis := [12]) (k := 6) fa_X12_121 (by decide) hR.1 rfl (hN.1 6 (by decide)) hmM dX12_feed_16 ?_
    refine JJ_sipush (v := 160) dX12_feed_19 rfl ?_
    refine JJ_icmp_ne (tgt := 28) dX12_feed_22 (by decide) (fun c5 => ?_) (fun c5 => ?_)
    · skip
      have hm1 : m < 160 := by have := (show m ≠ 160 from fun e => c5 (by rw [e]; rfl)); omega
      refine JJ_aload_n dX12_feed_28 rfl rfl ?_
      refine JJ_getr (q := o + 3) (cis := [12]) (k := 5) fa_X12_20 (by decide) hR.1 rfl (hR.2 (5, 3, 20, 160) (by decide)).1 dX12_feed_29 ?_
      refine JJ_aload_n dX12_feed_32 rfl rfl ?_
      refine JJ_geti (v := nI m) (cis := [12]) (k := 6) fa_X12_121 (by decide) hR.1 rfl (hN.1 6 (by decide)) hmM dX12_feed_33 ?_
      refine JJ_iload_n dX12_feed_36 rfl rfl ?_
      refine JJ_iastX (hR.2 (5, 3, 20, 160) (by decide)).2 (IX_nI (by omega) (by omega)) dX12_feed_37 (fun M6 hM7 => ?_)
      refine JJ_aload_n dX12_feed_38 rfl rfl ?_
      refine JJ_dup dX12_feed_39 rfl ?_
      refine JJ_geti (v := nI m) (cis := [12]) (k := 6) fa_X12_121 (by decide) hR.1 rfl (hN.1 6 (by decide)) (rd_n hM7 (by omega) hmM) dX12_feed_40 ?_
      refine JJ_iconst (v := 1) dX12_feed_43 rfl ?_
      refine JJ_iadd dX12_feed_44 ?_
      refine JJ_eqi (x2 := nI (m + 1)) (nI_add (m) (1)) ?_
      refine JJ_puti (cis := [12]) (k := 6) fa_X12_121 (by decide) hR.1 rfl (fun r hr => by cases hr; exact ⟨rfl, by decide +kernel⟩) dX12_feed_45 (fun M8 hM9 => ?_)
      refine JJ_aload_n dX12_feed_48 rfl rfl ?_
      refine JJ_geti (v := nI (m + 1)) (cis := [12]) (k := 6) fa_X12_121 (by decide) hR.1 rfl (hN.1 6 (by decide)) (rd_s hM9) dX12_feed_49 ?_
      refine JJ_iret dX12_feed_52 rfl ?_
      have e0 : zr_feed A b = (nI (m + 1), zUp (zUp A 11 m b) 12 0 (nI (m + 1))) := by rw [← hmi]; exact (if_neg (fun z => z (b2_n.mp c4))).trans (if_neg (by omega))
      exact zI_r (by rw [e0]) (by rw [e0, hM9, hM7]; exact feed_abs hA hm1 hm) (fun b k z => rd_n hM9 (fun e => z (by unfold RO; omega)) (rd_n hM7 (fun e => z (by unfold RO; omega)) (rfl)))
    · skip
      refine JJ_bipush (v := (-4)) dX12_feed_25 rfl ?_
      refine JJ_iret dX12_feed_27 rfl ?_
      have e0 : zr_feed A b = (-4, A) := (if_neg (fun z => z (b2_n.mp c4))).trans (if_pos (by rw [hmi]; exact nI_inj (b := 160) (by omega) (by omega) c5))
      exact zI_r (by rw [e0]) (by rw [e0]; exact hA) (fun _ _ _ => rfl)
  · skip
    refine JJ_bipush (v := (-2)) dX12_feed_12 rfl ?_
    refine JJ_iret dX12_feed_14 rfl ?_
    have e0 : zr_feed A b = (-2, A) := if_pos (b2_0.mp c4)
    exact zI_r (by rw [e0]) (by rw [e0]; exact hA) (fun _ _ _ => rfl)
set_option maxHeartbeats 4000000 in
set_option maxRecDepth 100000 in
theorem kr_force {t : Int32} {A : Abs} (hA : rABS o M A) (hg2 : RNG2 A) (hR : RWF o S P) (hN : HSR o sc) : KK G sc yX12_force cX12_force 3 (some .int) 3 0 0 [.ref o, .int t] (n, S, M, L, P) (zI o n S M P (zr_force A t).1 (zr_force A t).2) := by
  have hg : RNG A := hg2.1
  refine KK_of2 [(0, .ref o), (1, .int t)] (by decide +kernel) (Nat.le_of_ble_eq_true rfl) rfl ?_
  refine JJ_iload_n dX12_force_0 rfl rfl ?_
  refine JJ_i2l dX12_force_1 ?_
  refine JJ_lconst (v := 0) dX12_force_2 rfl ?_
  refine JJ_aload_n dX12_force_3 rfl rfl ?_
  refine JJ_geti (v := A.1 10 0) (cis := [12]) (k := 3) fa_X12_76 (by decide) hR.1 rfl (hN.1 3 (by decide)) hA.tc dX12_force_4 ?_
  refine JJ_iconst (v := 1) dX12_force_7 rfl ?_
  refine JJ_isub dX12_force_8 ?_
  refine JJ_i2l dX12_force_9 ?_
  refine JJ_callS (rest := []) (kr_in32 (v := t) (lo := 0) (hi := ((A.1 10 0) - 1).toInt64) (a := 0) (b := (((A.1 10 0) - 1)).toInt) rfl (i_wide _)) (by decide) mi_X12_in lk_X12_82 rfl (Nat.le_of_ble_eq_true rfl) rfl rfl dX12_force_10 ?_
  intro v1 μ2 h3
  obtain ⟨rfl, rfl⟩ := h3
  refine JJ_r1 ?_
  refine JJ_if_ne (tgt := 19) dX12_force_13 (by decide) (fun c4 => ?_) (fun c4 => ?_)
  · skip
    refine JJ_aload_n dX12_force_19 rfl rfl ?_
    refine JJ_geti (v := A.1 9 0) (cis := [12]) (k := 4) fa_X12_239 (by decide) hR.1 rfl (hN.1 4 (by decide)) hA.rul dX12_force_20 ?_
    refine JJ_istore_n (lv' := [(2, .int (A.1 9 0)), (0, .ref o), (1, .int t)]) dX12_force_23 rfl (by decide) rfl ?_
    refine JJ_aload_n dX12_force_24 rfl rfl ?_
    refine JJ_iload_n dX12_force_25 rfl rfl ?_
    refine JJ_puti (cis := [12]) (k := 4) fa_X12_239 (by decide) hR.1 rfl (fun r hr => by cases hr; exact ⟨rfl, by decide +kernel⟩) dX12_force_26 (fun M5 hM6 => ?_)
    refine JJ_iload_n dX12_force_29 rfl rfl ?_
    refine JJ_iret dX12_force_30 rfl ?_
    have e0 : zr_force A t = (A.1 9 0, zUp A 9 0 t) := if_neg (fun z => z (b2_n.mp c4))
    exact zI_r (by rw [e0]) (by rw [e0, hM6]; exact up_abs hA LC_9 (by decide)) (fun b k z => rd_n hM6 (fun e => z (by unfold RO; omega)) rfl)
  · skip
    refine JJ_bipush (v := (-2)) dX12_force_16 rfl ?_
    refine JJ_iret dX12_force_18 rfl ?_
    have e0 : zr_force A t = (-2, A) := if_pos (b2_0.mp c4)
    exact zI_r (by rw [e0]) (by rw [e0]; exact hA) (fun _ _ _ => rfl)
end REF13
