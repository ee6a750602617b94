section REF3
variable {G : Gx} {sc : Nat → Nat → Prop} {n : Nat} {S : Nat → Nat × Nat} {M : Nat → Nat → Int32} {L : Nat → Nat → Int64} {P : Nat → Nat → Option Nat} {o : Nat}

set_option maxHeartbeats 4000000 in
set_option maxRecDepth 100000 in
theorem kr_layAside {a : Nat} (ha : M o 33 = nI a) (hl : a + 5 ≤ 60) (hR : RWF o S P) (hN : HSR o sc) : KK G sc yX12_layAside cX12_layAside 2 none 0 0 0 [.ref o] (n, S, M, L, P) (fun v μ => v = none ∧ ∃ M', μ = (n, S, M', L, P) ∧ LAID o a M M') := by
  refine KK_of2 [(0, .ref o)] (by decide +kernel) (Nat.le_of_ble_eq_true rfl) rfl ?_
  refine JJ_iconst (v := 0) dX12_layAside_0 rfl ?_
  refine JJ_istore_n (lv' := [(1, .int 0), (0, .ref o)]) dX12_layAside_1 rfl (by decide) rfl ?_
  refine JJ_iload_n dX12_layAside_2 rfl rfl ?_
  refine JJ_iconst (v := 2) dX12_layAside_3 rfl ?_
  refine JJ_icmp_ge (tgt := 49) dX12_layAside_4 (by decide) (fun c1 => absurd c1 (by decide)) (fun _ => ?_)
  refine JJ_aload_n dX12_layAside_7 rfl rfl ?_
  refine JJ_getr (q := o + 11) (cis := [12]) (k := 32) fa_X12_44 (by decide) hR.1 rfl (hR.2 (32, 11, 20, 60) (by decide)).1 dX12_layAside_8 ?_
  refine JJ_aload_n dX12_layAside_11 rfl rfl ?_
  refine JJ_geti (v := nI a) (cis := [12]) (k := 33) fa_X12_283 (by decide) hR.1 rfl (hN.1 33 (by decide)) ha dX12_layAside_12 ?_
  refine JJ_iload_n dX12_layAside_15 rfl rfl ?_
  refine JJ_iadd dX12_layAside_16 ?_
  refine JJ_eqi (x2 := nI a) (Int32.add_zero _) ?_
  refine JJ_aload_n dX12_layAside_17 rfl rfl ?_
  refine JJ_getr (q := o + 4) (cis := [12]) (k := 7) fa_X12_23 (by decide) hR.1 rfl (hR.2 (7, 4, 20, 2) (by decide)).1 dX12_layAside_18 ?_
  refine JJ_iload_n dX12_layAside_21 rfl rfl ?_
  refine JJ_ialdX (v := M (o + 4) 0) (hR.2 (7, 4, 20, 2) (by decide)).2 (IX_of (j := 0) rfl (by decide) (by decide)) (hN.2.1 4 _ (by decide) (by decide)) rfl dX12_layAside_22 ?_
  refine JJ_iastX (hR.2 (32, 11, 20, 60) (by decide)).2 (IX_nI (by omega) (by omega)) dX12_layAside_23 (fun M2 hM3 => ?_)
  refine JJ_aload_n dX12_layAside_24 rfl rfl ?_
  refine JJ_getr (q := o + 11) (cis := [12]) (k := 32) fa_X12_44 (by decide) hR.1 rfl (hR.2 (32, 11, 20, 60) (by decide)).1 dX12_layAside_25 ?_
  refine JJ_aload_n dX12_layAside_28 rfl rfl ?_
  refine JJ_geti (v := nI a) (cis := [12]) (k := 33) fa_X12_283 (by decide) hR.1 rfl (hN.1 33 (by decide)) (rd_n hM3 (by omega) ha) dX12_layAside_29 ?_
  refine JJ_iconst (v := 2) dX12_layAside_32 rfl ?_
  refine JJ_iadd dX12_layAside_33 ?_
  refine JJ_eqi (x2 := nI (a + 2)) (nI_add (a) (2)) ?_
  refine JJ_iload_n dX12_layAside_34 rfl rfl ?_
  refine JJ_iadd dX12_layAside_35 ?_
  refine JJ_eqi (x2 := nI (a + 2)) (Int32.add_zero _) ?_
  refine JJ_aload_n dX12_layAside_36 rfl rfl ?_
  refine JJ_getr (q := o + 5) (cis := [12]) (k := 8) fa_X12_26 (by decide) hR.1 rfl (hR.2 (8, 5, 20, 2) (by decide)).1 dX12_layAside_37 ?_
  refine JJ_iload_n dX12_layAside_40 rfl rfl ?_
  refine JJ_ialdX (v := M (o + 5) 0) (hR.2 (8, 5, 20, 2) (by decide)).2 (IX_of (j := 0) rfl (by decide) (by decide)) (hN.2.1 5 _ (by decide) (by decide)) (rd_n hM3 (by omega) rfl) dX12_layAside_41 ?_
  refine JJ_iastX (hR.2 (32, 11, 20, 60) (by decide)).2 (IX_nI (by omega) (by omega)) dX12_layAside_42 (fun M4 hM5 => ?_)
  refine JJ_iinc (v := 1) (lv' := [(1, .int 1), (0, .ref o)]) dX12_layAside_43 rfl (by decide) (by decide) rfl ?_
  refine JJ_goto (tgt := 2) dX12_layAside_46 (by decide) ?_
  refine JJ_iload_n dX12_layAside_2 rfl rfl ?_
  refine JJ_iconst (v := 2) dX12_layAside_3 rfl ?_
  refine JJ_icmp_ge (tgt := 49) dX12_layAside_4 (by decide) (fun c6 => absurd c6 (by decide)) (fun _ => ?_)
  refine JJ_aload_n dX12_layAside_7 rfl rfl ?_
  refine JJ_getr (q := o + 11) (cis := [12]) (k := 32) fa_X12_44 (by decide) hR.1 rfl (hR.2 (32, 11, 20, 60) (by decide)).1 dX12_layAside_8 ?_
  refine JJ_aload_n dX12_layAside_11 rfl rfl ?_
  refine JJ_geti (v := nI a) (cis := [12]) (k := 33) fa_X12_283 (by decide) hR.1 rfl (hN.1 33 (by decide)) (rd_n hM5 (by omega) (rd_n hM3 (by omega) ha)) dX12_layAside_12 ?_
  refine JJ_iload_n dX12_layAside_15 rfl rfl ?_
  refine JJ_iadd dX12_layAside_16 ?_
  refine JJ_eqi (x2 := nI (a + 1)) (nI_add (a) (1)) ?_
  refine JJ_aload_n dX12_layAside_17 rfl rfl ?_
  refine JJ_getr (q := o + 4) (cis := [12]) (k := 7) fa_X12_23 (by decide) hR.1 rfl (hR.2 (7, 4, 20, 2) (by decide)).1 dX12_layAside_18 ?_
  refine JJ_iload_n dX12_layAside_21 rfl rfl ?_
  refine JJ_ialdX (v := M (o + 4) 1) (hR.2 (7, 4, 20, 2) (by decide)).2 (IX_of (j := 1) rfl (by decide) (by decide)) (hN.2.1 4 _ (by decide) (by decide)) (rd_n hM5 (by omega) (rd_n hM3 (by omega) rfl)) dX12_layAside_22 ?_
  refine JJ_iastX (hR.2 (32, 11, 20, 60) (by decide)).2 (IX_nI (by omega) (by omega)) dX12_layAside_23 (fun M7 hM8 => ?_)
  refine JJ_aload_n dX12_layAside_24 rfl rfl ?_
  refine JJ_getr (q := o + 11) (cis := [12]) (k := 32) fa_X12_44 (by decide) hR.1 rfl (hR.2 (32, 11, 20, 60) (by decide)).1 dX12_layAside_25 ?_
  refine JJ_aload_n dX12_layAside_28 rfl rfl ?_
  refine JJ_geti (v := nI a) (cis := [12]) (k := 33) fa_X12_283 (by decide) hR.1 rfl (hN.1 33 (by decide)) (rd_n hM8 (by omega) (rd_n hM5 (by omega) (rd_n hM3 (by omega) ha))) dX12_layAside_29 ?_
  refine JJ_iconst (v := 2) dX12_layAside_32 rfl ?_
  refine JJ_iadd dX12_layAside_33 ?_
  refine JJ_eqi (x2 := nI (a + 2)) (nI_add (a) (2)) ?_
  refine JJ_iload_n dX12_layAside_34 rfl rfl ?_
  refine JJ_iadd dX12_layAside_35 ?_
  refine JJ_eqi (x2 := nI (a + 2 + 1)) (nI_add (a + 2) (1)) ?_
  refine JJ_aload_n dX12_layAside_36 rfl rfl ?_
  refine JJ_getr (q := o + 5) (cis := [12]) (k := 8) fa_X12_26 (by decide) hR.1 rfl (hR.2 (8, 5, 20, 2) (by decide)).1 dX12_layAside_37 ?_
  refine JJ_iload_n dX12_layAside_40 rfl rfl ?_
  refine JJ_ialdX (v := M (o + 5) 1) (hR.2 (8, 5, 20, 2) (by decide)).2 (IX_of (j := 1) rfl (by decide) (by decide)) (hN.2.1 5 _ (by decide) (by decide)) (rd_n hM8 (by omega) (rd_n hM5 (by omega) (rd_n hM3 (by omega) rfl))) dX12_layAside_41 ?_
  refine JJ_iastX (hR.2 (32, 11, 20, 60) (by decide)).2 (IX_nI (by omega) (by omega)) dX12_layAside_42 (fun M9 hM10 => ?_)
  refine JJ_iinc (v := 2) (lv' := [(1, .int 2), (0, .ref o)]) dX12_layAside_43 rfl (by decide) (by decide) rfl ?_
  refine JJ_goto (tgt := 2) dX12_layAside_46 (by decide) ?_
  refine JJ_iload_n dX12_layAside_2 rfl rfl ?_
  refine JJ_iconst (v := 2) dX12_layAside_3 rfl ?_
  refine JJ_icmp_ge (tgt := 49) dX12_layAside_4 (by decide) (fun _ => ?_) (fun c11 => absurd (by decide) c11)
  refine JJ_aload_n dX12_layAside_49 rfl rfl ?_
  refine JJ_getr (q := o + 11) (cis := [12]) (k := 32) fa_X12_44 (by decide) hR.1 rfl (hR.2 (32, 11, 20, 60) (by decide)).1 dX12_layAside_50 ?_
  refine JJ_aload_n dX12_layAside_53 rfl rfl ?_
  refine JJ_geti (v := nI a) (cis := [12]) (k := 33) fa_X12_283 (by decide) hR.1 rfl (hN.1 33 (by decide)) (rd_n hM10 (by omega) (rd_n hM8 (by omega) (rd_n hM5 (by omega) (rd_n hM3 (by omega) ha)))) dX12_layAside_54 ?_
  refine JJ_iconst (v := 4) dX12_layAside_57 rfl ?_
  refine JJ_iadd dX12_layAside_58 ?_
  refine JJ_eqi (x2 := nI (a + 4)) (nI_add (a) (4)) ?_
  refine JJ_aload_n dX12_layAside_59 rfl rfl ?_
  refine JJ_geti (v := M o 11) (cis := [12]) (k := 11) fa_X12_109 (by decide) hR.1 rfl (hN.1 11 (by decide)) (rd_n hM10 (by omega) (rd_n hM8 (by omega) (rd_n hM5 (by omega) (rd_n hM3 (by omega) rfl)))) dX12_layAside_60 ?_
  refine JJ_iastX (hR.2 (32, 11, 20, 60) (by decide)).2 (IX_nI (by omega) (by omega)) dX12_layAside_63 (fun M12 hM13 => ?_)
  refine JJ_aload_n dX12_layAside_64 rfl rfl ?_
  refine JJ_dup dX12_layAside_65 rfl ?_
  refine JJ_geti (v := nI a) (cis := [12]) (k := 33) fa_X12_283 (by decide) hR.1 rfl (hN.1 33 (by decide)) (rd_n hM13 (by omega) (rd_n hM10 (by omega) (rd_n hM8 (by omega) (rd_n hM5 (by omega) (rd_n hM3 (by omega) ha))))) dX12_layAside_66 ?_
  refine JJ_iconst (v := 5) dX12_layAside_69 rfl ?_
  refine JJ_iadd dX12_layAside_70 ?_
  refine JJ_eqi (x2 := nI (a + 5)) (nI_add (a) (5)) ?_
  refine JJ_puti (cis := [12]) (k := 33) fa_X12_283 (by decide) hR.1 rfl (fun r hr => by cases hr; exact ⟨rfl, by decide +kernel⟩) dX12_layAside_71 (fun M14 hM15 => ?_)
  refine JJ_vret dX12_layAside_74 rfl ?_
  exact ⟨rfl, M14, rfl, lt2 (rd_n hM15 (by omega) (rd_n hM13 (by omega) (rd_n hM10 (by omega) (rd_n hM8 (by omega) (rd_n hM5 (by omega) (rd_s hM3)))))) (rd_n hM15 (by omega) (rd_n hM13 (by omega) (rd_n hM10 (by omega) (rd_s hM8)))), lt2 (rd_n hM15 (by omega) (rd_n hM13 (by omega) (rd_n hM10 (by omega) (rd_n hM8 (by omega) (rd_s hM5))))) (rd_n hM15 (by omega) (rd_n hM13 (by omega) (rd_s hM10))), (rd_n hM15 (by omega) (rd_s hM13)), (rd_s hM15), fun b k z0 z1 => by refine rd_n hM15 (by omega) ?_; refine rd_n hM13 (by omega) ?_; refine rd_n hM10 (by omega) ?_; refine rd_n hM8 (by omega) ?_; refine rd_n hM5 (by omega) ?_; refine rd_n hM3 (by omega) ?_; rfl⟩
set_option maxHeartbeats 4000000 in
set_option maxRecDepth 100000 in
theorem kr_takeBack {a : Nat} (ha : M o 33 = nI (a + 5)) (hl : a + 5 ≤ 60) (hR : RWF o S P) (hN : HSR o sc) : KK G sc yX12_takeBack cX12_takeBack 2 none 0 0 0 [.ref o] (n, S, M, L, P) (fun v μ => v = none ∧ ∃ M', μ = (n, S, M', L, P) ∧ TOOK o a M M') := by
  refine KK_of2 [(0, .ref o)] (by decide +kernel) (Nat.le_of_ble_eq_true rfl) rfl ?_
  refine JJ_aload_n dX12_takeBack_0 rfl rfl ?_
  refine JJ_dup dX12_takeBack_1 rfl ?_
  refine JJ_geti (v := nI (a + 5)) (cis := [12]) (k := 33) fa_X12_283 (by decide) hR.1 rfl (hN.1 33 (by decide)) ha dX12_takeBack_2 ?_
  refine JJ_iconst (v := 5) dX12_takeBack_5 rfl ?_
  refine JJ_isub dX12_takeBack_6 ?_
  refine JJ_eqi (x2 := nI a) (pk_sub (a := a + 5) (b := 5) (by omega)) ?_
  refine JJ_puti (cis := [12]) (k := 33) fa_X12_283 (by decide) hR.1 rfl (fun r hr => by cases hr; exact ⟨rfl, by decide +kernel⟩) dX12_takeBack_7 (fun M1 hM2 => ?_)
  refine JJ_iconst (v := 0) dX12_takeBack_10 rfl ?_
  refine JJ_istore_n (lv' := [(1, .int 0), (0, .ref o)]) dX12_takeBack_11 rfl (by decide) rfl ?_
  refine JJ_iload_n dX12_takeBack_12 rfl rfl ?_
  refine JJ_iconst (v := 2) dX12_takeBack_13 rfl ?_
  refine JJ_icmp_ge (tgt := 59) dX12_takeBack_14 (by decide) (fun c3 => absurd c3 (by decide)) (fun _ => ?_)
  refine JJ_aload_n dX12_takeBack_17 rfl rfl ?_
  refine JJ_getr (q := o + 4) (cis := [12]) (k := 7) fa_X12_23 (by decide) hR.1 rfl (hR.2 (7, 4, 20, 2) (by decide)).1 dX12_takeBack_18 ?_
  refine JJ_iload_n dX12_takeBack_21 rfl rfl ?_
  refine JJ_aload_n dX12_takeBack_22 rfl rfl ?_
  refine JJ_getr (q := o + 11) (cis := [12]) (k := 32) fa_X12_44 (by decide) hR.1 rfl (hR.2 (32, 11, 20, 60) (by decide)).1 dX12_takeBack_23 ?_
  refine JJ_aload_n dX12_takeBack_26 rfl rfl ?_
  refine JJ_geti (v := nI a) (cis := [12]) (k := 33) fa_X12_283 (by decide) hR.1 rfl (hN.1 33 (by decide)) (rd_s hM2) dX12_takeBack_27 ?_
  refine JJ_iload_n dX12_takeBack_30 rfl rfl ?_
  refine JJ_iadd dX12_takeBack_31 ?_
  refine JJ_eqi (x2 := nI a) (Int32.add_zero _) ?_
  refine JJ_ialdX (v := M (o + 11) a) (hR.2 (32, 11, 20, 60) (by decide)).2 (IX_nI (by omega) (by omega)) (hN.2.1 11 _ (by decide) (by decide)) (rd_n hM2 (by omega) rfl) dX12_takeBack_32 ?_
  refine JJ_iastX (hR.2 (7, 4, 20, 2) (by decide)).2 (IX_of (j := 0) rfl (by decide) (by decide)) dX12_takeBack_33 (fun M4 hM5 => ?_)
  refine JJ_aload_n dX12_takeBack_34 rfl rfl ?_
  refine JJ_getr (q := o + 5) (cis := [12]) (k := 8) fa_X12_26 (by decide) hR.1 rfl (hR.2 (8, 5, 20, 2) (by decide)).1 dX12_takeBack_35 ?_
  refine JJ_iload_n dX12_takeBack_38 rfl rfl ?_
  refine JJ_aload_n dX12_takeBack_39 rfl rfl ?_
  refine JJ_getr (q := o + 11) (cis := [12]) (k := 32) fa_X12_44 (by decide) hR.1 rfl (hR.2 (32, 11, 20, 60) (by decide)).1 dX12_takeBack_40 ?_
  refine JJ_aload_n dX12_takeBack_43 rfl rfl ?_
  refine JJ_geti (v := nI a) (cis := [12]) (k := 33) fa_X12_283 (by decide) hR.1 rfl (hN.1 33 (by decide)) (rd_n hM5 (by omega) (rd_s hM2)) dX12_takeBack_44 ?_
  refine JJ_iconst (v := 2) dX12_takeBack_47 rfl ?_
  refine JJ_iadd dX12_takeBack_48 ?_
  refine JJ_eqi (x2 := nI (a + 2)) (nI_add (a) (2)) ?_
  refine JJ_iload_n dX12_takeBack_49 rfl rfl ?_
  refine JJ_iadd dX12_takeBack_50 ?_
  refine JJ_eqi (x2 := nI (a + 2)) (Int32.add_zero _) ?_
  refine JJ_ialdX (v := M (o + 11) (a + 2)) (hR.2 (32, 11, 20, 60) (by decide)).2 (IX_nI (by omega) (by omega)) (hN.2.1 11 _ (by decide) (by decide)) (rd_n hM5 (by omega) (rd_n hM2 (by omega) rfl)) dX12_takeBack_51 ?_
  refine JJ_iastX (hR.2 (8, 5, 20, 2) (by decide)).2 (IX_of (j := 0) rfl (by decide) (by decide)) dX12_takeBack_52 (fun M6 hM7 => ?_)
  refine JJ_iinc (v := 1) (lv' := [(1, .int 1), (0, .ref o)]) dX12_takeBack_53 rfl (by decide) (by decide) rfl ?_
  refine JJ_goto (tgt := 12) dX12_takeBack_56 (by decide) ?_
  refine JJ_iload_n dX12_takeBack_12 rfl rfl ?_
  refine JJ_iconst (v := 2) dX12_takeBack_13 rfl ?_
  refine JJ_icmp_ge (tgt := 59) dX12_takeBack_14 (by decide) (fun c8 => absurd c8 (by decide)) (fun _ => ?_)
  refine JJ_aload_n dX12_takeBack_17 rfl rfl ?_
  refine JJ_getr (q := o + 4) (cis := [12]) (k := 7) fa_X12_23 (by decide) hR.1 rfl (hR.2 (7, 4, 20, 2) (by decide)).1 dX12_takeBack_18 ?_
  refine JJ_iload_n dX12_takeBack_21 rfl rfl ?_
  refine JJ_aload_n dX12_takeBack_22 rfl rfl ?_
  refine JJ_getr (q := o + 11) (cis := [12]) (k := 32) fa_X12_44 (by decide) hR.1 rfl (hR.2 (32, 11, 20, 60) (by decide)).1 dX12_takeBack_23 ?_
  refine JJ_aload_n dX12_takeBack_26 rfl rfl ?_
  refine JJ_geti (v := nI a) (cis := [12]) (k := 33) fa_X12_283 (by decide) hR.1 rfl (hN.1 33 (by decide)) (rd_n hM7 (by omega) (rd_n hM5 (by omega) (rd_s hM2))) dX12_takeBack_27 ?_
  refine JJ_iload_n dX12_takeBack_30 rfl rfl ?_
  refine JJ_iadd dX12_takeBack_31 ?_
  refine JJ_eqi (x2 := nI (a + 1)) (nI_add (a) (1)) ?_
  refine JJ_ialdX (v := M (o + 11) (a + 1)) (hR.2 (32, 11, 20, 60) (by decide)).2 (IX_nI (by omega) (by omega)) (hN.2.1 11 _ (by decide) (by decide)) (rd_n hM7 (by omega) (rd_n hM5 (by omega) (rd_n hM2 (by omega) rfl))) dX12_takeBack_32 ?_
  refine JJ_iastX (hR.2 (7, 4, 20, 2) (by decide)).2 (IX_of (j := 1) rfl (by decide) (by decide)) dX12_takeBack_33 (fun M9 hM10 => ?_)
  refine JJ_aload_n dX12_takeBack_34 rfl rfl ?_
  refine JJ_getr (q := o + 5) (cis := [12]) (k := 8) fa_X12_26 (by decide) hR.1 rfl (hR.2 (8, 5, 20, 2) (by decide)).1 dX12_takeBack_35 ?_
  refine JJ_iload_n dX12_takeBack_38 rfl rfl ?_
  refine JJ_aload_n dX12_takeBack_39 rfl rfl ?_
  refine JJ_getr (q := o + 11) (cis := [12]) (k := 32) fa_X12_44 (by decide) hR.1 rfl (hR.2 (32, 11, 20, 60) (by decide)).1 dX12_takeBack_40 ?_
  refine JJ_aload_n dX12_takeBack_43 rfl rfl ?_
  refine JJ_geti (v := nI a) (cis := [12]) (k := 33) fa_X12_283 (by decide) hR.1 rfl (hN.1 33 (by decide)) (rd_n hM10 (by omega) (rd_n hM7 (by omega) (rd_n hM5 (by omega) (rd_s hM2)))) dX12_takeBack_44 ?_
  refine JJ_iconst (v := 2) dX12_takeBack_47 rfl ?_
  refine JJ_iadd dX12_takeBack_48 ?_
  refine JJ_eqi (x2 := nI (a + 2)) (nI_add (a) (2)) ?_
  refine JJ_iload_n dX12_takeBack_49 rfl rfl ?_
  refine JJ_iadd dX12_takeBack_50 ?_
  refine JJ_eqi (x2 := nI (a + 2 + 1)) (nI_add (a + 2) (1)) ?_
  refine JJ_ialdX (v := M (o + 11) (a + 2 + 1)) (hR.2 (32, 11, 20, 60) (by decide)).2 (IX_nI (by omega) (by omega)) (hN.2.1 11 _ (by decide) (by decide)) (rd_n hM10 (by omega) (rd_n hM7 (by omega) (rd_n hM5 (by omega) (rd_n hM2 (by omega) rfl)))) dX12_takeBack_51 ?_
  refine JJ_iastX (hR.2 (8, 5, 20, 2) (by decide)).2 (IX_of (j := 1) rfl (by decide) (by decide)) dX12_takeBack_52 (fun M11 hM12 => ?_)
  refine JJ_iinc (v := 2) (lv' := [(1, .int 2), (0, .ref o)]) dX12_takeBack_53 rfl (by decide) (by decide) rfl ?_
  refine JJ_goto (tgt := 12) dX12_takeBack_56 (by decide) ?_
  refine JJ_iload_n dX12_takeBack_12 rfl rfl ?_
  refine JJ_iconst (v := 2) dX12_takeBack_13 rfl ?_
  refine JJ_icmp_ge (tgt := 59) dX12_takeBack_14 (by decide) (fun _ => ?_) (fun c13 => absurd (by decide) c13)
  refine JJ_aload_n dX12_takeBack_59 rfl rfl ?_
  refine JJ_aload_n dX12_takeBack_60 rfl rfl ?_
  refine JJ_getr (q := o + 11) (cis := [12]) (k := 32) fa_X12_44 (by decide) hR.1 rfl (hR.2 (32, 11, 20, 60) (by decide)).1 dX12_takeBack_61 ?_
  refine JJ_aload_n dX12_takeBack_64 rfl rfl ?_
  refine JJ_geti (v := nI a) (cis := [12]) (k := 33) fa_X12_283 (by decide) hR.1 rfl (hN.1 33 (by decide)) (rd_n hM12 (by omega) (rd_n hM10 (by omega) (rd_n hM7 (by omega) (rd_n hM5 (by omega) (rd_s hM2))))) dX12_takeBack_65 ?_
  refine JJ_iconst (v := 4) dX12_takeBack_68 rfl ?_
  refine JJ_iadd dX12_takeBack_69 ?_
  refine JJ_eqi (x2 := nI (a + 4)) (nI_add (a) (4)) ?_
  refine JJ_ialdX (v := M (o + 11) (a + 4)) (hR.2 (32, 11, 20, 60) (by decide)).2 (IX_nI (by omega) (by omega)) (hN.2.1 11 _ (by decide) (by decide)) (rd_n hM12 (by omega) (rd_n hM10 (by omega) (rd_n hM7 (by omega) (rd_n hM5 (by omega) (rd_n hM2 (by omega) rfl))))) dX12_takeBack_70 ?_
  refine JJ_puti (cis := [12]) (k := 11) fa_X12_109 (by decide) hR.1 rfl (fun r hr => by cases hr; exact ⟨rfl, by decide +kernel⟩) dX12_takeBack_71 (fun M14 hM15 => ?_)
  refine JJ_vret dX12_takeBack_74 rfl ?_
  exact ⟨rfl, M14, rfl, lt2 (rd_n hM15 (by omega) (rd_n hM12 (by omega) (rd_n hM10 (by omega) (rd_n hM7 (by omega) (rd_s hM5))))) (rd_n hM15 (by omega) (rd_n hM12 (by omega) (rd_s hM10))), lt2 (rd_n hM15 (by omega) (rd_n hM12 (by omega) (rd_n hM10 (by omega) (rd_s hM7)))) (rd_n hM15 (by omega) (rd_s hM12)), (rd_s hM15), (rd_n hM15 (by omega) (rd_n hM12 (by omega) (rd_n hM10 (by omega) (rd_n hM7 (by omega) (rd_n hM5 (by omega) (rd_s hM2)))))), fun b k z0 z1 z2 => by refine rd_n hM15 (by omega) ?_; refine rd_n hM12 (by omega) ?_; refine rd_n hM10 (by omega) ?_; refine rd_n hM7 (by omega) ?_; refine rd_n hM5 (by omega) ?_; refine rd_n hM2 (by omega) ?_; rfl⟩
set_option maxHeartbeats 4000000 in
set_option maxRecDepth 100000 in
theorem kr_goesOver {f t : Nat} {c0 : Int32} (hf : f < 25) (ht : t < 25) : KK G sc yX12_goesOver cX12_goesOver 6 (some .boolean) 0 0 0 [.int (nI f), .int (nI t), .int c0] (n, S, M, L, P) (fun v μ => (∃ r, v = some (.int r) ∧ (r = 0 ∨ r = 1) ∧ (r = 1 ↔ s_over f t c0)) ∧ μ = (n, S, M, L, P)) := by
  refine KK_of2 [(0, .int (nI f)), (1, .int (nI t)), (2, .int c0)] (by decide +kernel) (Nat.le_of_ble_eq_true rfl) rfl ?_
  refine JJ_iload_n dX12_goesOver_0 rfl rfl ?_
  refine JJ_iconst (v := 5) dX12_goesOver_1 rfl ?_
  refine JJ_irem dX12_goesOver_2 (by decide) ?_
  refine JJ_eqi (x2 := nI (f % 5)) (pk_rem (a := f) (d := 5) (by omega) (by decide) (by decide)) ?_
  refine JJ_istore_n (lv' := [(3, .int (nI (f % 5))), (0, .int (nI f)), (1, .int (nI t)), (2, .int c0)]) dX12_goesOver_3 rfl (by decide) rfl ?_
  refine JJ_iload_n dX12_goesOver_4 rfl rfl ?_
  refine JJ_iconst (v := 5) dX12_goesOver_5 rfl ?_
  refine JJ_idiv dX12_goesOver_6 (by decide) ?_
  refine JJ_eqi (x2 := nI (f / 5)) (pk_div (a := f) (d := 5) (by omega) (by decide) (by decide)) ?_
  refine JJ_istore (lv' := [(4, .int (nI (f / 5))), (3, .int (nI (f % 5))), (0, .int (nI f)), (1, .int (nI t)), (2, .int c0)]) dX12_goesOver_7 (by decide) rfl ?_
  refine JJ_iconst (v := 0) dX12_goesOver_9 rfl ?_
  refine JJ_istore (lv' := [(5, .int 0), (4, .int (nI (f / 5))), (3, .int (nI (f % 5))), (0, .int (nI f)), (1, .int (nI t)), (2, .int c0)]) dX12_goesOver_10 (by decide) rfl ?_
  have key : ∀ (k X Y : Nat) (acc : Int32), X < 5 → Y < 5 → (acc = 0 ∨ acc = 1) → ovk X Y (t % 5) (t / 5) = k → ((acc = 1 ∨ ov (t % 5) (t / 5) c0 k X Y = true) ↔ s_over f t c0) → JJ G sc yX12_goesOver cX12_goesOver 6 (some .boolean) 0 0 0 (fun v μ => (∃ r, v = some (.int r) ∧ (r = 0 ∨ r = 1) ∧ (r = 1 ↔ s_over f t c0)) ∧ μ = (n, S, M, L, P)) 12 [(5, .int acc), (4, .int (nI Y)), (3, .int (nI X)), (0, .int (nI f)), (1, .int (nI t)), (2, .int c0)] [] (n, S, M, L, P) := by
    intro k
    induction k with
    | zero =>
      intro X Y acc hX hY hacc hk hinv
      have e1 : X = t % 5 := by unfold ovk at hk; omega
      have e2 : Y = t / 5 := by unfold ovk at hk; omega
      refine JJ_iload_n dX12_goesOver_12 rfl rfl ?_
      refine JJ_iload_n dX12_goesOver_13 rfl rfl ?_
      refine JJ_iconst (v := 5) dX12_goesOver_14 rfl ?_
      refine JJ_irem dX12_goesOver_15 (by decide) ?_
      refine JJ_eqi (x2 := nI (t % 5)) (pk_rem (a := t) (d := 5) (by omega) (by decide) (by decide)) ?_
      refine JJ_icmp_ne (tgt := 27) dX12_goesOver_16 (by decide) (fun c1 => absurd (show nI X = nI (t % 5) by rw [e1]) c1) (fun _ => ?_)
      refine JJ_iload dX12_goesOver_19 rfl ?_
      refine JJ_iload_n dX12_goesOver_21 rfl rfl ?_
      refine JJ_iconst (v := 5) dX12_goesOver_22 rfl ?_
      refine JJ_idiv dX12_goesOver_23 (by decide) ?_
      refine JJ_eqi (x2 := nI (t / 5)) (pk_div (a := t) (d := 5) (by omega) (by decide) (by decide)) ?_
      refine JJ_icmp_eq (tgt := 108) dX12_goesOver_24 (by decide) (fun _ => ?_) (fun c2 => absurd (by rw [e2]) c2)
      refine JJ_iload dX12_goesOver_108 rfl ?_
      refine JJ_zret dX12_goesOver_110 rfl hacc ?_
      exact ⟨⟨acc, rfl, hacc, fun h => hinv.mp (Or.inl h), fun h => (hinv.mpr h).elim id (fun q => absurd q (by simp [ov]))⟩, rfl⟩
    | succ k ih =>
      intro X Y acc hX hY hacc hk hinv
      have H27 : JJ G sc yX12_goesOver cX12_goesOver 6 (some .boolean) 0 0 0 (fun v μ => (∃ r, v = some (.int r) ∧ (r = 0 ∨ r = 1) ∧ (r = 1 ↔ s_over f t c0)) ∧ μ = (n, S, M, L, P)) 27 [(5, .int acc), (4, .int (nI Y)), (3, .int (nI X)), (0, .int (nI f)), (1, .int (nI t)), (2, .int c0)] [] (n, S, M, L, P) := by
        have H52 : JJ G sc yX12_goesOver cX12_goesOver 6 (some .boolean) 0 0 0 (fun v μ => (∃ r, v = some (.int r) ∧ (r = 0 ∨ r = 1) ∧ (r = 1 ↔ s_over f t c0)) ∧ μ = (n, S, M, L, P)) 52 [(5, .int acc), (4, .int (nI Y)), (3, .int (nI X)), (0, .int (nI f)), (1, .int (nI t)), (2, .int c0)] [.int (nI (stp X (t % 5)))] (n, S, M, L, P) := by
          refine JJ_istore_n (lv' := [(3, .int (nI (stp X (t % 5)))), (5, .int acc), (4, .int (nI Y)), (0, .int (nI f)), (1, .int (nI t)), (2, .int c0)]) dX12_goesOver_52 rfl (by decide) rfl ?_
          have H81 : JJ G sc yX12_goesOver cX12_goesOver 6 (some .boolean) 0 0 0 (fun v μ => (∃ r, v = some (.int r) ∧ (r = 0 ∨ r = 1) ∧ (r = 1 ↔ s_over f t c0)) ∧ μ = (n, S, M, L, P)) 81 [(3, .int (nI (stp X (t % 5)))), (5, .int acc), (4, .int (nI Y)), (0, .int (nI f)), (1, .int (nI t)), (2, .int c0)] [.int (nI (stp Y (t / 5)))] (n, S, M, L, P) := by
            refine JJ_istore (lv' := [(4, .int (nI (stp Y (t / 5)))), (3, .int (nI (stp X (t % 5)))), (5, .int acc), (0, .int (nI f)), (1, .int (nI t)), (2, .int c0)]) dX12_goesOver_81 (by decide) rfl ?_
            refine JJ_iload dX12_goesOver_83 rfl ?_
            refine JJ_if_ne (tgt := 98) dX12_goesOver_85 (by decide) (fun c3 => ?_) (fun c3 => ?_)
            · skip
              refine JJ_iconst (v := 1) dX12_goesOver_98 rfl ?_
              refine JJ_goto (tgt := 103) dX12_goesOver_99 (by decide) ?_
              refine JJ_istore (lv' := [(5, .int 1), (4, .int (nI (stp Y (t / 5)))), (3, .int (nI (stp X (t % 5)))), (0, .int (nI f)), (1, .int (nI t)), (2, .int c0)]) dX12_goesOver_103 (by decide) rfl ?_
              refine JJ_goto (tgt := 12) dX12_goesOver_105 (by decide) ?_
              refine JJ.pick [0, 1, 2, 3, 4, 5] rfl ?_
              refine ih _ _ 1 (stp_lt hX (by omega)) (stp_lt hY (by omega)) (Or.inr rfl) (ovk_step hk) ?_
              rw [← hinv]
              rw [ov_s]
              exact ovA hacc c3
            · skip
              refine JJ_iconst (v := 5) dX12_goesOver_88 rfl ?_
              refine JJ_iload dX12_goesOver_89 rfl ?_
              refine JJ_imul dX12_goesOver_91 ?_
              refine JJ_eqi (x2 := nI (5 * (stp Y (t / 5)))) (pk_mul (5) (stp Y (t / 5))) ?_
              refine JJ_iload_n dX12_goesOver_92 rfl rfl ?_
              refine JJ_iadd dX12_goesOver_93 ?_
              refine JJ_eqi (x2 := nI (5 * (stp Y (t / 5)) + stp X (t % 5))) (nI_add (5 * (stp Y (t / 5))) (stp X (t % 5))) ?_
              refine JJ_iload_n dX12_goesOver_94 rfl rfl ?_
              refine JJ_icmp_ne (tgt := 102) dX12_goesOver_95 (by decide) (fun c4 => ?_) (fun c4 => ?_)
              · skip
                refine JJ_iconst (v := 0) dX12_goesOver_102 rfl ?_
                refine JJ_istore (lv' := [(5, .int 0), (4, .int (nI (stp Y (t / 5)))), (3, .int (nI (stp X (t % 5)))), (0, .int (nI f)), (1, .int (nI t)), (2, .int c0)]) dX12_goesOver_103 (by decide) rfl ?_
                refine JJ_goto (tgt := 12) dX12_goesOver_105 (by decide) ?_
                refine JJ.pick [0, 1, 2, 3, 4, 5] rfl ?_
                refine ih _ _ 0 (stp_lt hX (by omega)) (stp_lt hY (by omega)) (Or.inl rfl) (ovk_step hk) ?_
                rw [← hinv]
                rw [ov_s]
                exact ovC c3 c4
              · skip
                refine JJ_iconst (v := 1) dX12_goesOver_98 rfl ?_
                refine JJ_goto (tgt := 103) dX12_goesOver_99 (by decide) ?_
                refine JJ_istore (lv' := [(5, .int 1), (4, .int (nI (stp Y (t / 5)))), (3, .int (nI (stp X (t % 5)))), (0, .int (nI f)), (1, .int (nI t)), (2, .int c0)]) dX12_goesOver_103 (by decide) rfl ?_
                refine JJ_goto (tgt := 12) dX12_goesOver_105 (by decide) ?_
                refine JJ.pick [0, 1, 2, 3, 4, 5] rfl ?_
                refine ih _ _ 1 (stp_lt hX (by omega)) (stp_lt hY (by omega)) (Or.inr rfl) (ovk_step hk) ?_
                rw [← hinv]
                rw [ov_s]
                exact ovB c4
          refine JJ_iload dX12_goesOver_53 rfl ?_
          refine JJ_iload dX12_goesOver_55 rfl ?_
          refine JJ_iload_n dX12_goesOver_57 rfl rfl ?_
          refine JJ_iconst (v := 5) dX12_goesOver_58 rfl ?_
          refine JJ_idiv dX12_goesOver_59 (by decide) ?_
          refine JJ_eqi (x2 := nI (t / 5)) (pk_div (a := t) (d := 5) (by omega) (by decide) (by decide)) ?_
          refine JJ_icmp_ge (tgt := 67) dX12_goesOver_60 (by decide) (fun c5 => ?_) (fun c5 => ?_)
          · skip
            refine JJ_iload dX12_goesOver_67 rfl ?_
            refine JJ_iload_n dX12_goesOver_69 rfl rfl ?_
            refine JJ_iconst (v := 5) dX12_goesOver_70 rfl ?_
            refine JJ_idiv dX12_goesOver_71 (by decide) ?_
            refine JJ_eqi (x2 := nI (t / 5)) (pk_div (a := t) (d := 5) (by omega) (by decide) (by decide)) ?_
            refine JJ_icmp_le (tgt := 79) dX12_goesOver_72 (by decide) (fun c6 => ?_) (fun c6 => ?_)
            · skip
              refine JJ_iconst (v := 0) dX12_goesOver_79 rfl ?_
              refine JJ_iadd dX12_goesOver_80 ?_
              refine JJ_eqi (x2 := nI (stp Y (t / 5))) (stp3 (by omega) (by omega) c5 c6) ?_
              exact H81
            · skip
              refine JJ_iconst (v := (-1)) dX12_goesOver_75 rfl ?_
              refine JJ_goto (tgt := 80) dX12_goesOver_76 (by decide) ?_
              refine JJ_iadd dX12_goesOver_80 ?_
              refine JJ_eqi (x2 := nI (stp Y (t / 5))) (stp2 (by omega) (by omega) c6) ?_
              exact H81
          · skip
            refine JJ_iconst (v := 1) dX12_goesOver_63 rfl ?_
            refine JJ_goto (tgt := 80) dX12_goesOver_64 (by decide) ?_
            refine JJ_iadd dX12_goesOver_80 ?_
            refine JJ_eqi (x2 := nI (stp Y (t / 5))) (stp1 (by omega) (by omega) c5) ?_
            exact H81
        refine JJ_iload_n dX12_goesOver_27 rfl rfl ?_
        refine JJ_iload_n dX12_goesOver_28 rfl rfl ?_
        refine JJ_iload_n dX12_goesOver_29 rfl rfl ?_
        refine JJ_iconst (v := 5) dX12_goesOver_30 rfl ?_
        refine JJ_irem dX12_goesOver_31 (by decide) ?_
        refine JJ_eqi (x2 := nI (t % 5)) (pk_rem (a := t) (d := 5) (by omega) (by decide) (by decide)) ?_
        refine JJ_icmp_ge (tgt := 39) dX12_goesOver_32 (by decide) (fun c7 => ?_) (fun c7 => ?_)
        · skip
          refine JJ_iload_n dX12_goesOver_39 rfl rfl ?_
          refine JJ_iload_n dX12_goesOver_40 rfl rfl ?_
          refine JJ_iconst (v := 5) dX12_goesOver_41 rfl ?_
          refine JJ_irem dX12_goesOver_42 (by decide) ?_
          refine JJ_eqi (x2 := nI (t % 5)) (pk_rem (a := t) (d := 5) (by omega) (by decide) (by decide)) ?_
          refine JJ_icmp_le (tgt := 50) dX12_goesOver_43 (by decide) (fun c8 => ?_) (fun c8 => ?_)
          · skip
            refine JJ_iconst (v := 0) dX12_goesOver_50 rfl ?_
            refine JJ_iadd dX12_goesOver_51 ?_
            refine JJ_eqi (x2 := nI (stp X (t % 5))) (stp3 (by omega) (by omega) c7 c8) ?_
            exact H52
          · skip
            refine JJ_iconst (v := (-1)) dX12_goesOver_46 rfl ?_
            refine JJ_goto (tgt := 51) dX12_goesOver_47 (by decide) ?_
            refine JJ_iadd dX12_goesOver_51 ?_
            refine JJ_eqi (x2 := nI (stp X (t % 5))) (stp2 (by omega) (by omega) c8) ?_
            exact H52
        · skip
          refine JJ_iconst (v := 1) dX12_goesOver_35 rfl ?_
          refine JJ_goto (tgt := 51) dX12_goesOver_36 (by decide) ?_
          refine JJ_iadd dX12_goesOver_51 ?_
          refine JJ_eqi (x2 := nI (stp X (t % 5))) (stp1 (by omega) (by omega) c7) ?_
          exact H52
      refine JJ_iload_n dX12_goesOver_12 rfl rfl ?_
      refine JJ_iload_n dX12_goesOver_13 rfl rfl ?_
      refine JJ_iconst (v := 5) dX12_goesOver_14 rfl ?_
      refine JJ_irem dX12_goesOver_15 (by decide) ?_
      refine JJ_eqi (x2 := nI (t % 5)) (pk_rem (a := t) (d := 5) (by omega) (by decide) (by decide)) ?_
      refine JJ_icmp_ne (tgt := 27) dX12_goesOver_16 (by decide) (fun c9 => ?_) (fun c9 => ?_)
      · skip
        exact H27
      · skip
        refine JJ_iload dX12_goesOver_19 rfl ?_
        refine JJ_iload_n dX12_goesOver_21 rfl rfl ?_
        refine JJ_iconst (v := 5) dX12_goesOver_22 rfl ?_
        refine JJ_idiv dX12_goesOver_23 (by decide) ?_
        refine JJ_eqi (x2 := nI (t / 5)) (pk_div (a := t) (d := 5) (by omega) (by decide) (by decide)) ?_
        refine JJ_icmp_eq (tgt := 108) dX12_goesOver_24 (by decide) (fun c10 => ?_) (fun c10 => ?_)
        · skip
          refine JJ_iload dX12_goesOver_108 rfl ?_
          refine JJ_zret dX12_goesOver_110 rfl hacc ?_
          exact absurd hk (by have e1 := nI_inj (by omega) (by omega) c9; have e2 := nI_inj (by omega) (by omega) c10; unfold ovk; omega)
        · skip
          exact H27
  exact key _ (f % 5) (f / 5) 0 (by omega) (by omega) (Or.inl rfl) rfl (by unfold s_over; simp)
end REF3
