section REF12
variable {G : Gx} {sc : Nat → Nat → Prop} {n : Nat} {S : Nat → Nat × Nat} {M : Nat → Nat → Int32} {L : Nat → Nat → Int64} {P : Nat → Nat → Option Nat} {o : Nat}

set_option maxHeartbeats 4000000 in
set_option maxRecDepth 100000 in
theorem kr_told {s what : Int32} {A : Abs} (hA : rABS o M A) (hg : RNG A) (hR : RWF o S P) (hN : HSR o sc) : KK G sc yX12_told cX12_told 3 (some .int) 4 0 0 [.ref o, .int s, .int what] (n, S, M, L, P) (ansI (zr_told A s what) (n, S, M, L, P)) := by
  refine KK_of2 [(0, .ref o), (1, .int s), (2, .int what)] (by decide +kernel) (Nat.le_of_ble_eq_true rfl) rfl ?_
  refine JJ_iload_n dX12_told_0 rfl rfl ?_
  refine JJ_i2l dX12_told_1 ?_
  refine JJ_lconst (v := 0) dX12_told_2 rfl ?_
  refine JJ_ldc2 (v := 6) dX12_told_3 tb_1091 ?_
  refine JJ_callS (rest := []) (kr_in32 (v := what) (lo := 0) (hi := 6) (a := 0) (b := 6) rfl rfl) (by decide) mi_X12_in lk_X12_82 rfl (Nat.le_of_ble_eq_true rfl) rfl rfl dX12_told_6 ?_
  intro v1 μ2 h3
  obtain ⟨rfl, rfl⟩ := h3
  refine JJ_r1 ?_
  refine JJ_if_eq (tgt := 35) dX12_told_9 (by decide) (fun c4 => ?_) (fun c4 => ?_)
  · skip
    refine JJ_bipush (v := (-100)) dX12_told_35 rfl ?_
    refine JJ_iret dX12_told_37 rfl ?_
    exact ans_i (if_neg (fun z => b2_0.mp c4 z.1)).symm
  · skip
    obtain ⟨q, hq6, rfl⟩ := n_of (m := 6) (by decide) (b2_n.mp c4)
    have hd : q = 0 ∨ q = 1 ∨ q = 2 ∨ q = 3 ∨ q = 4 ∨ q = 5 ∨ q = 6 := by omega
    rcases hd with rfl | rfl | rfl | rfl | rfl | rfl | rfl
    · skip
      refine JJ_iload_n dX12_told_12 rfl rfl ?_
      refine JJ_iconst (v := 4) dX12_told_13 rfl ?_
      refine JJ_icmp_ge (tgt := 27) dX12_told_14 (by decide) (fun c5 => absurd c5 (by decide)) (fun _ => ?_)
      refine JJ_iload_n dX12_told_17 rfl rfl ?_
      refine JJ_callS (rest := []) (kr_isPlayer (v := s)) (by decide) mi_X12_isPlayer lk_X12_90 rfl (Nat.le_of_ble_eq_true rfl) rfl rfl dX12_told_18 ?_
      intro v6 μ7 h8
      obtain ⟨rfl, rfl⟩ := h8
      refine JJ_r1 ?_
      refine JJ_if_eq (tgt := 35) dX12_told_21 (by decide) (fun c9 => ?_) (fun c9 => ?_)
      · skip
        refine JJ_bipush (v := (-100)) dX12_told_35 rfl ?_
        refine JJ_iret dX12_told_37 rfl ?_
        have hn1 : ¬ isPl s := b2_0.mp c9
        exact ans_i (if_neg (fun z => hn1 z.2)).symm
      · skip
        refine JJ_goto (tgt := 38) dX12_told_24 (by decide) ?_
        have hz1 : isPl s := b2_n.mp c9
        have hz : zokof A 0 s := hz1
        obtain ⟨k, hk1, rfl⟩ := n_of (m := 1) (by decide) (b2_n.mp c9)
        have hk : k < 2 := by omega
        refine JJ_iload_n dX12_told_38 rfl rfl ?_
        refine JJ_iconst (v := 4) dX12_told_39 rfl ?_
        refine JJ_icmp_ge (tgt := 91) dX12_told_40 (by decide) (fun c10 => absurd c10 (by decide)) (fun _ => ?_)
        refine JJ_iload_n dX12_told_43 rfl rfl ?_
        refine JJ_if_ne (tgt := 56) dX12_told_44 (by decide) (fun c11 => absurd (by decide) c11) (fun _ => ?_)
        refine JJ_aload_n dX12_told_47 rfl rfl ?_
        refine JJ_getr (q := o + 4) (cis := [12]) (k := 7) fa_X12_23 (by decide) hR.1 rfl (hR.2 (7, 4, 20, 2) (by decide)).1 dX12_told_48 ?_
        refine JJ_iload_n dX12_told_51 rfl rfl ?_
        refine JJ_ialdX (v := A.1 0 k) (hR.2 (7, 4, 20, 2) (by decide)).2 (IX_nI (by omega) (by omega)) (hN.2.1 4 _ (by decide) (by decide)) (hA.loc _ _ _ _ (LC_0 hk)) dX12_told_52 ?_
        refine JJ_goto (tgt := 90) dX12_told_53 (by decide) ?_
        refine JJ_iret dX12_told_90 rfl ?_
        exact ans_i ((if_pos ⟨⟨by decide, by decide⟩, hz⟩).trans (by rw [show i2n (nI k) = k from nI_clamp (by omega)]; rfl)).symm
    · skip
      refine JJ_iload_n dX12_told_12 rfl rfl ?_
      refine JJ_iconst (v := 4) dX12_told_13 rfl ?_
      refine JJ_icmp_ge (tgt := 27) dX12_told_14 (by decide) (fun c12 => absurd c12 (by decide)) (fun _ => ?_)
      refine JJ_iload_n dX12_told_17 rfl rfl ?_
      refine JJ_callS (rest := []) (kr_isPlayer (v := s)) (by decide) mi_X12_isPlayer lk_X12_90 rfl (Nat.le_of_ble_eq_true rfl) rfl rfl dX12_told_18 ?_
      intro v13 μ14 h15
      obtain ⟨rfl, rfl⟩ := h15
      refine JJ_r1 ?_
      refine JJ_if_eq (tgt := 35) dX12_told_21 (by decide) (fun c16 => ?_) (fun c16 => ?_)
      · skip
        refine JJ_bipush (v := (-100)) dX12_told_35 rfl ?_
        refine JJ_iret dX12_told_37 rfl ?_
        have hn1 : ¬ isPl s := b2_0.mp c16
        exact ans_i (if_neg (fun z => hn1 z.2)).symm
      · skip
        refine JJ_goto (tgt := 38) dX12_told_24 (by decide) ?_
        have hz1 : isPl s := b2_n.mp c16
        have hz : zokof A 1 s := hz1
        obtain ⟨k, hk1, rfl⟩ := n_of (m := 1) (by decide) (b2_n.mp c16)
        have hk : k < 2 := by omega
        refine JJ_iload_n dX12_told_38 rfl rfl ?_
        refine JJ_iconst (v := 4) dX12_told_39 rfl ?_
        refine JJ_icmp_ge (tgt := 91) dX12_told_40 (by decide) (fun c17 => absurd c17 (by decide)) (fun _ => ?_)
        refine JJ_iload_n dX12_told_43 rfl rfl ?_
        refine JJ_if_ne (tgt := 56) dX12_told_44 (by decide) (fun _ => ?_) (fun c18 => absurd c18 (by decide))
        refine JJ_iload_n dX12_told_56 rfl rfl ?_
        refine JJ_iconst (v := 1) dX12_told_57 rfl ?_
        refine JJ_icmp_ne (tgt := 70) dX12_told_58 (by decide) (fun c19 => absurd (by decide) c19) (fun _ => ?_)
        refine JJ_aload_n dX12_told_61 rfl rfl ?_
        refine JJ_getr (q := o + 5) (cis := [12]) (k := 8) fa_X12_26 (by decide) hR.1 rfl (hR.2 (8, 5, 20, 2) (by decide)).1 dX12_told_62 ?_
        refine JJ_iload_n dX12_told_65 rfl rfl ?_
        refine JJ_ialdX (v := A.1 1 k) (hR.2 (8, 5, 20, 2) (by decide)).2 (IX_nI (by omega) (by omega)) (hN.2.1 5 _ (by decide) (by decide)) (hA.loc _ _ _ _ (LC_1 hk)) dX12_told_66 ?_
        refine JJ_goto (tgt := 90) dX12_told_67 (by decide) ?_
        refine JJ_iret dX12_told_90 rfl ?_
        exact ans_i ((if_pos ⟨⟨by decide, by decide⟩, hz⟩).trans (by rw [show i2n (nI k) = k from nI_clamp (by omega)]; rfl)).symm
    · skip
      refine JJ_iload_n dX12_told_12 rfl rfl ?_
      refine JJ_iconst (v := 4) dX12_told_13 rfl ?_
      refine JJ_icmp_ge (tgt := 27) dX12_told_14 (by decide) (fun c20 => absurd c20 (by decide)) (fun _ => ?_)
      refine JJ_iload_n dX12_told_17 rfl rfl ?_
      refine JJ_callS (rest := []) (kr_isPlayer (v := s)) (by decide) mi_X12_isPlayer lk_X12_90 rfl (Nat.le_of_ble_eq_true rfl) rfl rfl dX12_told_18 ?_
      intro v21 μ22 h23
      obtain ⟨rfl, rfl⟩ := h23
      refine JJ_r1 ?_
      refine JJ_if_eq (tgt := 35) dX12_told_21 (by decide) (fun c24 => ?_) (fun c24 => ?_)
      · skip
        refine JJ_bipush (v := (-100)) dX12_told_35 rfl ?_
        refine JJ_iret dX12_told_37 rfl ?_
        have hn1 : ¬ isPl s := b2_0.mp c24
        exact ans_i (if_neg (fun z => hn1 z.2)).symm
      · skip
        refine JJ_goto (tgt := 38) dX12_told_24 (by decide) ?_
        have hz1 : isPl s := b2_n.mp c24
        have hz : zokof A 2 s := hz1
        obtain ⟨k, hk1, rfl⟩ := n_of (m := 1) (by decide) (b2_n.mp c24)
        have hk : k < 2 := by omega
        refine JJ_iload_n dX12_told_38 rfl rfl ?_
        refine JJ_iconst (v := 4) dX12_told_39 rfl ?_
        refine JJ_icmp_ge (tgt := 91) dX12_told_40 (by decide) (fun c25 => absurd c25 (by decide)) (fun _ => ?_)
        refine JJ_iload_n dX12_told_43 rfl rfl ?_
        refine JJ_if_ne (tgt := 56) dX12_told_44 (by decide) (fun _ => ?_) (fun c26 => absurd c26 (by decide))
        refine JJ_iload_n dX12_told_56 rfl rfl ?_
        refine JJ_iconst (v := 1) dX12_told_57 rfl ?_
        refine JJ_icmp_ne (tgt := 70) dX12_told_58 (by decide) (fun _ => ?_) (fun c27 => absurd c27 (by decide))
        refine JJ_iload_n dX12_told_70 rfl rfl ?_
        refine JJ_iconst (v := 2) dX12_told_71 rfl ?_
        refine JJ_icmp_ne (tgt := 84) dX12_told_72 (by decide) (fun c28 => absurd (by decide) c28) (fun _ => ?_)
        refine JJ_aload_n dX12_told_75 rfl rfl ?_
        refine JJ_getr (q := o + 6) (cis := [12]) (k := 9) fa_X12_29 (by decide) hR.1 rfl (hR.2 (9, 6, 20, 2) (by decide)).1 dX12_told_76 ?_
        refine JJ_iload_n dX12_told_79 rfl rfl ?_
        refine JJ_ialdX (v := A.1 2 k) (hR.2 (9, 6, 20, 2) (by decide)).2 (IX_nI (by omega) (by omega)) (hN.2.1 6 _ (by decide) (by decide)) (hA.loc _ _ _ _ (LC_2 hk)) dX12_told_80 ?_
        refine JJ_goto (tgt := 90) dX12_told_81 (by decide) ?_
        refine JJ_iret dX12_told_90 rfl ?_
        exact ans_i ((if_pos ⟨⟨by decide, by decide⟩, hz⟩).trans (by rw [show i2n (nI k) = k from nI_clamp (by omega)]; rfl)).symm
    · skip
      refine JJ_iload_n dX12_told_12 rfl rfl ?_
      refine JJ_iconst (v := 4) dX12_told_13 rfl ?_
      refine JJ_icmp_ge (tgt := 27) dX12_told_14 (by decide) (fun c29 => absurd c29 (by decide)) (fun _ => ?_)
      refine JJ_iload_n dX12_told_17 rfl rfl ?_
      refine JJ_callS (rest := []) (kr_isPlayer (v := s)) (by decide) mi_X12_isPlayer lk_X12_90 rfl (Nat.le_of_ble_eq_true rfl) rfl rfl dX12_told_18 ?_
      intro v30 μ31 h32
      obtain ⟨rfl, rfl⟩ := h32
      refine JJ_r1 ?_
      refine JJ_if_eq (tgt := 35) dX12_told_21 (by decide) (fun c33 => ?_) (fun c33 => ?_)
      · skip
        refine JJ_bipush (v := (-100)) dX12_told_35 rfl ?_
        refine JJ_iret dX12_told_37 rfl ?_
        have hn1 : ¬ isPl s := b2_0.mp c33
        exact ans_i (if_neg (fun z => hn1 z.2)).symm
      · skip
        refine JJ_goto (tgt := 38) dX12_told_24 (by decide) ?_
        have hz1 : isPl s := b2_n.mp c33
        have hz : zokof A 3 s := hz1
        obtain ⟨k, hk1, rfl⟩ := n_of (m := 1) (by decide) (b2_n.mp c33)
        have hk : k < 2 := by omega
        refine JJ_iload_n dX12_told_38 rfl rfl ?_
        refine JJ_iconst (v := 4) dX12_told_39 rfl ?_
        refine JJ_icmp_ge (tgt := 91) dX12_told_40 (by decide) (fun c34 => absurd c34 (by decide)) (fun _ => ?_)
        refine JJ_iload_n dX12_told_43 rfl rfl ?_
        refine JJ_if_ne (tgt := 56) dX12_told_44 (by decide) (fun _ => ?_) (fun c35 => absurd c35 (by decide))
        refine JJ_iload_n dX12_told_56 rfl rfl ?_
        refine JJ_iconst (v := 1) dX12_told_57 rfl ?_
        refine JJ_icmp_ne (tgt := 70) dX12_told_58 (by decide) (fun _ => ?_) (fun c36 => absurd c36 (by decide))
        refine JJ_iload_n dX12_told_70 rfl rfl ?_
        refine JJ_iconst (v := 2) dX12_told_71 rfl ?_
        refine JJ_icmp_ne (tgt := 84) dX12_told_72 (by decide) (fun _ => ?_) (fun c37 => absurd c37 (by decide))
        refine JJ_aload_n dX12_told_84 rfl rfl ?_
        refine JJ_getr (q := o + 7) (cis := [12]) (k := 10) fa_X12_32 (by decide) hR.1 rfl (hR.2 (10, 7, 20, 2) (by decide)).1 dX12_told_85 ?_
        refine JJ_iload_n dX12_told_88 rfl rfl ?_
        refine JJ_ialdX (v := A.1 3 k) (hR.2 (10, 7, 20, 2) (by decide)).2 (IX_nI (by omega) (by omega)) (hN.2.1 7 _ (by decide) (by decide)) (hA.loc _ _ _ _ (LC_3 hk)) dX12_told_89 ?_
        refine JJ_iret dX12_told_90 rfl ?_
        exact ans_i ((if_pos ⟨⟨by decide, by decide⟩, hz⟩).trans (by rw [show i2n (nI k) = k from nI_clamp (by omega)]; rfl)).symm
    · skip
      refine JJ_iload_n dX12_told_12 rfl rfl ?_
      refine JJ_iconst (v := 4) dX12_told_13 rfl ?_
      refine JJ_icmp_ge (tgt := 27) dX12_told_14 (by decide) (fun _ => ?_) (fun c38 => absurd (by decide) c38)
      refine JJ_aload_n dX12_told_27 rfl rfl ?_
      refine JJ_iload_n dX12_told_28 rfl rfl ?_
      refine JJ_callV (rest := []) hR.1 rfl rfl (kr_isStroke (v := s) hR hN) (by decide) mi_X12_isStroke lk_X12_98 rfl (Nat.le_of_ble_eq_true rfl) rfl rfl dX12_told_29 ?_
      intro v39 μ40 h41
      obtain ⟨rfl, rfl⟩ := h41
      refine JJ_r1 ?_
      refine JJ_eqi (x2 := b2 (isSk A s)) (b2_c (by show _ ↔ (0 ≤ _ ∧ _ ≤ (A.1 8 0 - 1).toInt); rw [hA.cnt])) ?_
      refine JJ_if_ne (tgt := 38) dX12_told_32 (by decide) (fun c42 => ?_) (fun c42 => ?_)
      · skip
        have hz1 : isSk A s := b2_n.mp c42
        have hz : zokof A 4 s := hz1
        obtain ⟨k, hk, hkc, rfl⟩ := sk_of hg (b2_n.mp c42)
        refine JJ_iload_n dX12_told_38 rfl rfl ?_
        refine JJ_iconst (v := 4) dX12_told_39 rfl ?_
        refine JJ_icmp_ge (tgt := 91) dX12_told_40 (by decide) (fun _ => ?_) (fun c43 => absurd (by decide) c43)
        refine JJ_iload_n dX12_told_91 rfl rfl ?_
        refine JJ_iconst (v := 4) dX12_told_92 rfl ?_
        refine JJ_icmp_ne (tgt := 105) dX12_told_93 (by decide) (fun c44 => absurd (by decide) c44) (fun _ => ?_)
        refine JJ_aload_n dX12_told_96 rfl rfl ?_
        refine JJ_getr (q := o + 9) (cis := [12]) (k := 13) fa_X12_38 (by decide) hR.1 rfl (hR.2 (13, 9, 20, 6) (by decide)).1 dX12_told_97 ?_
        refine JJ_iload_n dX12_told_100 rfl rfl ?_
        refine JJ_ialdX (v := A.1 6 k) (hR.2 (13, 9, 20, 6) (by decide)).2 (IX_nI (by omega) (by omega)) (hN.2.1 9 _ (by decide) (by decide)) (hA.loc _ _ _ _ (LC_6 hk)) dX12_told_101 ?_
        refine JJ_goto (tgt := 125) dX12_told_102 (by decide) ?_
        refine JJ_iret dX12_told_125 rfl ?_
        exact ans_i ((if_pos ⟨⟨by decide, by decide⟩, hz⟩).trans (by rw [show i2n (nI k) = k from nI_clamp (by omega)]; rfl)).symm
      · skip
        refine JJ_bipush (v := (-100)) dX12_told_35 rfl ?_
        refine JJ_iret dX12_told_37 rfl ?_
        have hn1 : ¬ isSk A s := b2_0.mp c42
        exact ans_i (if_neg (fun z => hn1 z.2)).symm
    · skip
      refine JJ_iload_n dX12_told_12 rfl rfl ?_
      refine JJ_iconst (v := 4) dX12_told_13 rfl ?_
      refine JJ_icmp_ge (tgt := 27) dX12_told_14 (by decide) (fun _ => ?_) (fun c45 => absurd (by decide) c45)
      refine JJ_aload_n dX12_told_27 rfl rfl ?_
      refine JJ_iload_n dX12_told_28 rfl rfl ?_
      refine JJ_callV (rest := []) hR.1 rfl rfl (kr_isStroke (v := s) hR hN) (by decide) mi_X12_isStroke lk_X12_98 rfl (Nat.le_of_ble_eq_true rfl) rfl rfl dX12_told_29 ?_
      intro v46 μ47 h48
      obtain ⟨rfl, rfl⟩ := h48
      refine JJ_r1 ?_
      refine JJ_eqi (x2 := b2 (isSk A s)) (b2_c (by show _ ↔ (0 ≤ _ ∧ _ ≤ (A.1 8 0 - 1).toInt); rw [hA.cnt])) ?_
      refine JJ_if_ne (tgt := 38) dX12_told_32 (by decide) (fun c49 => ?_) (fun c49 => ?_)
      · skip
        have hz1 : isSk A s := b2_n.mp c49
        have hz : zokof A 5 s := hz1
        obtain ⟨k, hk, hkc, rfl⟩ := sk_of hg (b2_n.mp c49)
        refine JJ_iload_n dX12_told_38 rfl rfl ?_
        refine JJ_iconst (v := 4) dX12_told_39 rfl ?_
        refine JJ_icmp_ge (tgt := 91) dX12_told_40 (by decide) (fun _ => ?_) (fun c50 => absurd (by decide) c50)
        refine JJ_iload_n dX12_told_91 rfl rfl ?_
        refine JJ_iconst (v := 4) dX12_told_92 rfl ?_
        refine JJ_icmp_ne (tgt := 105) dX12_told_93 (by decide) (fun _ => ?_) (fun c51 => absurd c51 (by decide))
        refine JJ_iload_n dX12_told_105 rfl rfl ?_
        refine JJ_iconst (v := 5) dX12_told_106 rfl ?_
        refine JJ_icmp_ne (tgt := 119) dX12_told_107 (by decide) (fun c52 => absurd (by decide) c52) (fun _ => ?_)
        refine JJ_aload_n dX12_told_110 rfl rfl ?_
        refine JJ_getr (q := o + 10) (cis := [12]) (k := 14) fa_X12_41 (by decide) hR.1 rfl (hR.2 (14, 10, 20, 6) (by decide)).1 dX12_told_111 ?_
        refine JJ_iload_n dX12_told_114 rfl rfl ?_
        refine JJ_ialdX (v := A.1 7 k) (hR.2 (14, 10, 20, 6) (by decide)).2 (IX_nI (by omega) (by omega)) (hN.2.1 10 _ (by decide) (by decide)) (hA.loc _ _ _ _ (LC_7 hk)) dX12_told_115 ?_
        refine JJ_goto (tgt := 125) dX12_told_116 (by decide) ?_
        refine JJ_iret dX12_told_125 rfl ?_
        exact ans_i ((if_pos ⟨⟨by decide, by decide⟩, hz⟩).trans (by rw [show i2n (nI k) = k from nI_clamp (by omega)]; rfl)).symm
      · skip
        refine JJ_bipush (v := (-100)) dX12_told_35 rfl ?_
        refine JJ_iret dX12_told_37 rfl ?_
        have hn1 : ¬ isSk A s := b2_0.mp c49
        exact ans_i (if_neg (fun z => hn1 z.2)).symm
    · skip
      refine JJ_iload_n dX12_told_12 rfl rfl ?_
      refine JJ_iconst (v := 4) dX12_told_13 rfl ?_
      refine JJ_icmp_ge (tgt := 27) dX12_told_14 (by decide) (fun _ => ?_) (fun c53 => absurd (by decide) c53)
      refine JJ_aload_n dX12_told_27 rfl rfl ?_
      refine JJ_iload_n dX12_told_28 rfl rfl ?_
      refine JJ_callV (rest := []) hR.1 rfl rfl (kr_isStroke (v := s) hR hN) (by decide) mi_X12_isStroke lk_X12_98 rfl (Nat.le_of_ble_eq_true rfl) rfl rfl dX12_told_29 ?_
      intro v54 μ55 h56
      obtain ⟨rfl, rfl⟩ := h56
      refine JJ_r1 ?_
      refine JJ_eqi (x2 := b2 (isSk A s)) (b2_c (by show _ ↔ (0 ≤ _ ∧ _ ≤ (A.1 8 0 - 1).toInt); rw [hA.cnt])) ?_
      refine JJ_if_ne (tgt := 38) dX12_told_32 (by decide) (fun c57 => ?_) (fun c57 => ?_)
      · skip
        have hz1 : isSk A s := b2_n.mp c57
        have hz : zokof A 6 s := hz1
        obtain ⟨k, hk, hkc, rfl⟩ := sk_of hg (b2_n.mp c57)
        refine JJ_iload_n dX12_told_38 rfl rfl ?_
        refine JJ_iconst (v := 4) dX12_told_39 rfl ?_
        refine JJ_icmp_ge (tgt := 91) dX12_told_40 (by decide) (fun _ => ?_) (fun c58 => absurd (by decide) c58)
        refine JJ_iload_n dX12_told_91 rfl rfl ?_
        refine JJ_iconst (v := 4) dX12_told_92 rfl ?_
        refine JJ_icmp_ne (tgt := 105) dX12_told_93 (by decide) (fun _ => ?_) (fun c59 => absurd c59 (by decide))
        refine JJ_iload_n dX12_told_105 rfl rfl ?_
        refine JJ_iconst (v := 5) dX12_told_106 rfl ?_
        refine JJ_icmp_ne (tgt := 119) dX12_told_107 (by decide) (fun _ => ?_) (fun c60 => absurd c60 (by decide))
        refine JJ_aload_n dX12_told_119 rfl rfl ?_
        refine JJ_getr (q := o + 8) (cis := [12]) (k := 12) fa_X12_35 (by decide) hR.1 rfl (hR.2 (12, 8, 20, 6) (by decide)).1 dX12_told_120 ?_
        refine JJ_iload_n dX12_told_123 rfl rfl ?_
        refine JJ_ialdX (v := A.1 5 k) (hR.2 (12, 8, 20, 6) (by decide)).2 (IX_nI (by omega) (by omega)) (hN.2.1 8 _ (by decide) (by decide)) (hA.loc _ _ _ _ (LC_5 hk)) dX12_told_124 ?_
        refine JJ_iret dX12_told_125 rfl ?_
        exact ans_i ((if_pos ⟨⟨by decide, by decide⟩, hz⟩).trans (by rw [show i2n (nI k) = k from nI_clamp (by omega)]; rfl)).symm
      · skip
        refine JJ_bipush (v := (-100)) dX12_told_35 rfl ?_
        refine JJ_iret dX12_told_37 rfl ?_
        have hn1 : ¬ isSk A s := b2_0.mp c57
        exact ans_i (if_neg (fun z => hn1 z.2)).symm
theorem zs_n {A : Abs} {what s v : Int32} (h : ¬ ((0 ≤ what.toInt ∧ what.toInt ≤ 6) ∧ (i2n what = 6 ∨ zokof A (i2n what) s) ∧ s_lo (i2n what) ≤ v.toInt ∧ v.toInt ≤ s_hi (i2n what))) : zr_set A what s v = (-100, A) := if_neg h
set_option maxHeartbeats 4000000 in
set_option maxRecDepth 100000 in
theorem kr_set {what s v : Int32} {A : Abs} (hA : rABS o M A) (hg : RNG A) (hR : RWF o S P) (hN : HSR o sc) : KK G sc yX12_set cX12_set 5 (some .int) 5 0 0 [.ref o, .int what, .int s, .int v] (n, S, M, L, P) (zI o n S M P (zr_set A what s v).1 (zr_set A what s v).2) := by
  refine KK_of2 [(0, .ref o), (1, .int what), (2, .int s), (3, .int v)] (by decide +kernel) (Nat.le_of_ble_eq_true rfl) rfl ?_
  refine JJ_iload_n dX12_set_0 rfl rfl ?_
  refine JJ_i2l dX12_set_1 ?_
  refine JJ_lconst (v := 0) dX12_set_2 rfl ?_
  refine JJ_ldc2 (v := 6) dX12_set_3 tb_1091 ?_
  refine JJ_callS (rest := []) (kr_in32 (v := what) (lo := 0) (hi := 6) (a := 0) (b := 6) rfl rfl) (by decide) mi_X12_in lk_X12_82 rfl (Nat.le_of_ble_eq_true rfl) rfl rfl dX12_set_6 ?_
  intro v1 μ2 h3
  obtain ⟨rfl, rfl⟩ := h3
  refine JJ_r1 ?_
  refine JJ_if_eq (tgt := 46) dX12_set_9 (by decide) (fun c4 => ?_) (fun c4 => ?_)
  · skip
    refine JJ_bipush (v := (-100)) dX12_set_46 rfl ?_
    refine JJ_iret dX12_set_48 rfl ?_
    have hn1 := b2_0.mp c4
    have e0 : zr_set A what s v = (-100, A) := zs_n (fun z => hn1 z.1)
    exact zI_r (by rw [e0]) (by rw [e0]; exact hA) (fun _ _ _ => rfl)
  · skip
    obtain ⟨q, hq6, rfl⟩ := n_of (m := 6) (by decide) (b2_n.mp c4)
    have hd : q = 0 ∨ q = 1 ∨ q = 2 ∨ q = 3 ∨ q = 4 ∨ q = 5 ∨ q = 6 := by omega
    rcases hd with rfl | rfl | rfl | rfl | rfl | rfl | rfl
    · skip
      refine JJ_iload_n dX12_set_12 rfl rfl ?_
      refine JJ_iconst (v := 4) dX12_set_13 rfl ?_
      refine JJ_icmp_ge (tgt := 24) dX12_set_14 (by decide) (fun c5 => absurd c5 (by decide)) (fun _ => ?_)
      refine JJ_iload_n dX12_set_17 rfl rfl ?_
      refine JJ_callS (rest := []) (kr_isPlayer (v := s)) (by decide) mi_X12_isPlayer lk_X12_90 rfl (Nat.le_of_ble_eq_true rfl) rfl rfl dX12_set_18 ?_
      intro v6 μ7 h8
      obtain ⟨rfl, rfl⟩ := h8
      refine JJ_r1 ?_
      refine JJ_if_eq (tgt := 46) dX12_set_21 (by decide) (fun c9 => ?_) (fun c9 => ?_)
      · skip
        refine JJ_bipush (v := (-100)) dX12_set_46 rfl ?_
        refine JJ_iret dX12_set_48 rfl ?_
        have hn1 : ¬ isPl s := b2_0.mp c9
        have e0 : zr_set A (nI 0) s v = (-100, A) := zs_n (fun z => z.2.1.elim (fun e => absurd e (by decide)) (fun e => hn1 e))
        exact zI_r (by rw [e0]) (by rw [e0]; exact hA) (fun _ _ _ => rfl)
      · skip
        refine JJ_iload_n dX12_set_24 rfl rfl ?_
        refine JJ_i2l dX12_set_25 ?_
        refine JJ_ldc2 (v := 4) dX12_set_26 tb_1098 ?_
        refine JJ_ldc2 (v := 5) dX12_set_29 tb_1099 ?_
        refine JJ_callS (rest := []) (kr_in32 (v := (0 : Int32)) (lo := 4) (hi := 5) (a := 4) (b := 5) rfl rfl) (by decide) mi_X12_in lk_X12_82 rfl (Nat.le_of_ble_eq_true rfl) rfl rfl dX12_set_32 ?_
        intro v10 μ11 h12
        obtain ⟨rfl, rfl⟩ := h12
        refine JJ_r1 ?_
        refine JJ_if_eq (tgt := 49) dX12_set_35 (by decide) (fun _ => ?_) (fun c13 => absurd (by decide) c13)
        have hz1 : isPl s := b2_n.mp c9
        have hz : zokof A 0 s := hz1
        obtain ⟨k, hk1, rfl⟩ := n_of (m := 1) (by decide) (b2_n.mp c9)
        have hk : k < 2 := by omega
        refine JJ_iload_n dX12_set_49 rfl rfl ?_
        refine JJ_i2l dX12_set_50 ?_
        refine JJ_iload_n dX12_set_51 rfl rfl ?_
        refine JJ_iconst (v := 3) dX12_set_52 rfl ?_
        refine JJ_icmp_ne (tgt := 62) dX12_set_53 (by decide) (fun _ => ?_) (fun c14 => absurd c14 (by decide))
        refine JJ_lconst (v := 0) dX12_set_62 rfl ?_
        refine JJ_iload_n dX12_set_63 rfl rfl ?_
        refine JJ_iconst (v := 1) dX12_set_64 rfl ?_
        refine JJ_icmp_ne (tgt := 74) dX12_set_65 (by decide) (fun _ => ?_) (fun c15 => absurd c15 (by decide))
        refine JJ_iload_n dX12_set_74 rfl rfl ?_
        refine JJ_iconst (v := 2) dX12_set_75 rfl ?_
        refine JJ_icmp_eq (tgt := 84) dX12_set_76 (by decide) (fun c16 => absurd c16 (by decide)) (fun _ => ?_)
        refine JJ_iload_n dX12_set_79 rfl rfl ?_
        refine JJ_iconst (v := 4) dX12_set_80 rfl ?_
        refine JJ_icmp_ne (tgt := 90) dX12_set_81 (by decide) (fun _ => ?_) (fun c17 => absurd c17 (by decide))
        refine JJ_iload_n dX12_set_90 rfl rfl ?_
        refine JJ_bipush (v := 6) dX12_set_91 rfl ?_
        refine JJ_icmp_ne (tgt := 102) dX12_set_93 (by decide) (fun _ => ?_) (fun c18 => absurd c18 (by decide))
        refine JJ_ldc2 (v := 24) dX12_set_102 tb_1108 ?_
        refine JJ_callS (rest := []) (kr_in32 (v := v) (lo := 0) (hi := 24) (a := 0) (b := 24) rfl rfl) (by decide) mi_X12_in lk_X12_82 rfl (Nat.le_of_ble_eq_true rfl) rfl rfl dX12_set_105 ?_
        intro v19 μ20 h21
        obtain ⟨rfl, rfl⟩ := h21
        refine JJ_r1 ?_
        refine JJ_if_ne (tgt := 114) dX12_set_108 (by decide) (fun c22 => ?_) (fun c22 => ?_)
        · skip
          refine JJ_iload_n dX12_set_114 rfl rfl ?_
          refine JJ_bipush (v := 6) dX12_set_115 rfl ?_
          refine JJ_icmp_ne (tgt := 127) dX12_set_117 (by decide) (fun _ => ?_) (fun c23 => absurd c23 (by decide))
          refine JJ_aload_n dX12_set_127 rfl rfl ?_
          refine JJ_iload_n dX12_set_128 rfl rfl ?_
          refine JJ_iload_n dX12_set_129 rfl rfl ?_
          refine JJ_callV (rest := []) hR.1 rfl rfl (kr_told (s := nI k) (what := nI 0) hA hg hR hN) (by decide) mi_X12_told lk_X12_112 rfl (Nat.le_of_ble_eq_true rfl) rfl rfl dX12_set_130 ?_
          intro v24 μ25 h26
          obtain ⟨rfl, rfl⟩ := h26
          refine JJ_r1 ?_
          refine JJ_eqi (x2 := A.1 0 k) ((if_pos ⟨⟨by decide, by decide⟩, hz⟩).trans (by rw [show i2n (nI k) = k from nI_clamp (by omega)]; rfl)) ?_
          refine JJ_istore (lv' := [(4, .int (A.1 0 k)), (0, .ref o), (1, .int 0), (2, .int (nI k)), (3, .int v)]) dX12_set_133 (by decide) rfl ?_
          refine JJ_iload_n dX12_set_135 rfl rfl ?_
          refine JJ_if_ne (tgt := 149) dX12_set_136 (by decide) (fun c27 => absurd (by decide) c27) (fun _ => ?_)
          refine JJ_aload_n dX12_set_139 rfl rfl ?_
          refine JJ_getr (q := o + 4) (cis := [12]) (k := 7) fa_X12_23 (by decide) hR.1 rfl (hR.2 (7, 4, 20, 2) (by decide)).1 dX12_set_140 ?_
          refine JJ_iload_n dX12_set_143 rfl rfl ?_
          refine JJ_iload_n dX12_set_144 rfl rfl ?_
          refine JJ_iastX (hR.2 (7, 4, 20, 2) (by decide)).2 (IX_nI (by omega) (by omega)) dX12_set_145 (fun M28 hM29 => ?_)
          refine JJ_goto (tgt := 229) dX12_set_146 (by decide) ?_
          refine JJ_iload dX12_set_229 rfl ?_
          refine JJ_iret dX12_set_231 rfl ?_
          have e0 : zr_set A (nI 0) (nI k) v = (A.1 0 k, zUp A 0 k v) := ((if_pos ⟨⟨by decide, by decide⟩, Or.inr hz, b2_n.mp c22⟩).trans (if_neg (by decide))).trans (by rw [show i2n (nI k) = k from nI_clamp (by omega)]; rfl)
          exact zI_r (by rw [e0]) (by rw [e0, hM29]; exact up_abs hA (LC_0 hk) (by decide)) (fun b k z => rd_n hM29 (fun e => z (by unfold RO; omega)) rfl)
        · skip
          refine JJ_bipush (v := (-100)) dX12_set_111 rfl ?_
          refine JJ_iret dX12_set_113 rfl ?_
          have hn1 := b2_0.mp c22
          have e0 : zr_set A (nI 0) (nI k) v = (-100, A) := zs_n (fun z => hn1 z.2.2)
          exact zI_r (by rw [e0]) (by rw [e0]; exact hA) (fun _ _ _ => rfl)
    · skip
      refine JJ_iload_n dX12_set_12 rfl rfl ?_
      refine JJ_iconst (v := 4) dX12_set_13 rfl ?_
      refine JJ_icmp_ge (tgt := 24) dX12_set_14 (by decide) (fun c30 => absurd c30 (by decide)) (fun _ => ?_)
      refine JJ_iload_n dX12_set_17 rfl rfl ?_
      refine JJ_callS (rest := []) (kr_isPlayer (v := s)) (by decide) mi_X12_isPlayer lk_X12_90 rfl (Nat.le_of_ble_eq_true rfl) rfl rfl dX12_set_18 ?_
      intro v31 μ32 h33
      obtain ⟨rfl, rfl⟩ := h33
      refine JJ_r1 ?_
      refine JJ_if_eq (tgt := 46) dX12_set_21 (by decide) (fun c34 => ?_) (fun c34 => ?_)
      · skip
        refine JJ_bipush (v := (-100)) dX12_set_46 rfl ?_
        refine JJ_iret dX12_set_48 rfl ?_
        have hn1 : ¬ isPl s := b2_0.mp c34
        have e0 : zr_set A (nI 1) s v = (-100, A) := zs_n (fun z => z.2.1.elim (fun e => absurd e (by decide)) (fun e => hn1 e))
        exact zI_r (by rw [e0]) (by rw [e0]; exact hA) (fun _ _ _ => rfl)
      · skip
        refine JJ_iload_n dX12_set_24 rfl rfl ?_
        refine JJ_i2l dX12_set_25 ?_
        refine JJ_ldc2 (v := 4) dX12_set_26 tb_1098 ?_
        refine JJ_ldc2 (v := 5) dX12_set_29 tb_1099 ?_
        refine JJ_callS (rest := []) (kr_in32 (v := (1 : Int32)) (lo := 4) (hi := 5) (a := 4) (b := 5) rfl rfl) (by decide) mi_X12_in lk_X12_82 rfl (Nat.le_of_ble_eq_true rfl) rfl rfl dX12_set_32 ?_
        intro v35 μ36 h37
        obtain ⟨rfl, rfl⟩ := h37
        refine JJ_r1 ?_
        refine JJ_if_eq (tgt := 49) dX12_set_35 (by decide) (fun _ => ?_) (fun c38 => absurd (by decide) c38)
        have hz1 : isPl s := b2_n.mp c34
        have hz : zokof A 1 s := hz1
        obtain ⟨k, hk1, rfl⟩ := n_of (m := 1) (by decide) (b2_n.mp c34)
        have hk : k < 2 := by omega
        refine JJ_iload_n dX12_set_49 rfl rfl ?_
        refine JJ_i2l dX12_set_50 ?_
        refine JJ_iload_n dX12_set_51 rfl rfl ?_
        refine JJ_iconst (v := 3) dX12_set_52 rfl ?_
        refine JJ_icmp_ne (tgt := 62) dX12_set_53 (by decide) (fun _ => ?_) (fun c39 => absurd c39 (by decide))
        refine JJ_lconst (v := 0) dX12_set_62 rfl ?_
        refine JJ_iload_n dX12_set_63 rfl rfl ?_
        refine JJ_iconst (v := 1) dX12_set_64 rfl ?_
        refine JJ_icmp_ne (tgt := 74) dX12_set_65 (by decide) (fun c40 => absurd (by decide) c40) (fun _ => ?_)
        refine JJ_ldc2 (v := 999) dX12_set_68 tb_1105 ?_
        refine JJ_goto (tgt := 105) dX12_set_71 (by decide) ?_
        refine JJ_callS (rest := []) (kr_in32 (v := v) (lo := 0) (hi := 999) (a := 0) (b := 999) rfl rfl) (by decide) mi_X12_in lk_X12_82 rfl (Nat.le_of_ble_eq_true rfl) rfl rfl dX12_set_105 ?_
        intro v41 μ42 h43
        obtain ⟨rfl, rfl⟩ := h43
        refine JJ_r1 ?_
        refine JJ_if_ne (tgt := 114) dX12_set_108 (by decide) (fun c44 => ?_) (fun c44 => ?_)
        · skip
          refine JJ_iload_n dX12_set_114 rfl rfl ?_
          refine JJ_bipush (v := 6) dX12_set_115 rfl ?_
          refine JJ_icmp_ne (tgt := 127) dX12_set_117 (by decide) (fun _ => ?_) (fun c45 => absurd c45 (by decide))
          refine JJ_aload_n dX12_set_127 rfl rfl ?_
          refine JJ_iload_n dX12_set_128 rfl rfl ?_
          refine JJ_iload_n dX12_set_129 rfl rfl ?_
          refine JJ_callV (rest := []) hR.1 rfl rfl (kr_told (s := nI k) (what := nI 1) hA hg hR hN) (by decide) mi_X12_told lk_X12_112 rfl (Nat.le_of_ble_eq_true rfl) rfl rfl dX12_set_130 ?_
          intro v46 μ47 h48
          obtain ⟨rfl, rfl⟩ := h48
          refine JJ_r1 ?_
          refine JJ_eqi (x2 := A.1 1 k) ((if_pos ⟨⟨by decide, by decide⟩, hz⟩).trans (by rw [show i2n (nI k) = k from nI_clamp (by omega)]; rfl)) ?_
          refine JJ_istore (lv' := [(4, .int (A.1 1 k)), (0, .ref o), (1, .int 1), (2, .int (nI k)), (3, .int v)]) dX12_set_133 (by decide) rfl ?_
          refine JJ_iload_n dX12_set_135 rfl rfl ?_
          refine JJ_if_ne (tgt := 149) dX12_set_136 (by decide) (fun _ => ?_) (fun c49 => absurd c49 (by decide))
          refine JJ_iload_n dX12_set_149 rfl rfl ?_
          refine JJ_iconst (v := 1) dX12_set_150 rfl ?_
          refine JJ_icmp_ne (tgt := 164) dX12_set_151 (by decide) (fun c50 => absurd (by decide) c50) (fun _ => ?_)
          refine JJ_aload_n dX12_set_154 rfl rfl ?_
          refine JJ_getr (q := o + 5) (cis := [12]) (k := 8) fa_X12_26 (by decide) hR.1 rfl (hR.2 (8, 5, 20, 2) (by decide)).1 dX12_set_155 ?_
          refine JJ_iload_n dX12_set_158 rfl rfl ?_
          refine JJ_iload_n dX12_set_159 rfl rfl ?_
          refine JJ_iastX (hR.2 (8, 5, 20, 2) (by decide)).2 (IX_nI (by omega) (by omega)) dX12_set_160 (fun M51 hM52 => ?_)
          refine JJ_goto (tgt := 229) dX12_set_161 (by decide) ?_
          refine JJ_iload dX12_set_229 rfl ?_
          refine JJ_iret dX12_set_231 rfl ?_
          have e0 : zr_set A (nI 1) (nI k) v = (A.1 1 k, zUp A 1 k v) := ((if_pos ⟨⟨by decide, by decide⟩, Or.inr hz, b2_n.mp c44⟩).trans (if_neg (by decide))).trans (by rw [show i2n (nI k) = k from nI_clamp (by omega)]; rfl)
          exact zI_r (by rw [e0]) (by rw [e0, hM52]; exact up_abs hA (LC_1 hk) (by decide)) (fun b k z => rd_n hM52 (fun e => z (by unfold RO; omega)) rfl)
        · skip
          refine JJ_bipush (v := (-100)) dX12_set_111 rfl ?_
          refine JJ_iret dX12_set_113 rfl ?_
          have hn1 := b2_0.mp c44
          have e0 : zr_set A (nI 1) (nI k) v = (-100, A) := zs_n (fun z => hn1 z.2.2)
          exact zI_r (by rw [e0]) (by rw [e0]; exact hA) (fun _ _ _ => rfl)
    · skip
      refine JJ_iload_n dX12_set_12 rfl rfl ?_
      refine JJ_iconst (v := 4) dX12_set_13 rfl ?_
      refine JJ_icmp_ge (tgt := 24) dX12_set_14 (by decide) (fun c53 => absurd c53 (by decide)) (fun _ => ?_)
      refine JJ_iload_n dX12_set_17 rfl rfl ?_
      refine JJ_callS (rest := []) (kr_isPlayer (v := s)) (by decide) mi_X12_isPlayer lk_X12_90 rfl (Nat.le_of_ble_eq_true rfl) rfl rfl dX12_set_18 ?_
      intro v54 μ55 h56
      obtain ⟨rfl, rfl⟩ := h56
      refine JJ_r1 ?_
      refine JJ_if_eq (tgt := 46) dX12_set_21 (by decide) (fun c57 => ?_) (fun c57 => ?_)
      · skip
        refine JJ_bipush (v := (-100)) dX12_set_46 rfl ?_
        refine JJ_iret dX12_set_48 rfl ?_
        have hn1 : ¬ isPl s := b2_0.mp c57
        have e0 : zr_set A (nI 2) s v = (-100, A) := zs_n (fun z => z.2.1.elim (fun e => absurd e (by decide)) (fun e => hn1 e))
        exact zI_r (by rw [e0]) (by rw [e0]; exact hA) (fun _ _ _ => rfl)
      · skip
        refine JJ_iload_n dX12_set_24 rfl rfl ?_
        refine JJ_i2l dX12_set_25 ?_
        refine JJ_ldc2 (v := 4) dX12_set_26 tb_1098 ?_
        refine JJ_ldc2 (v := 5) dX12_set_29 tb_1099 ?_
        refine JJ_callS (rest := []) (kr_in32 (v := (2 : Int32)) (lo := 4) (hi := 5) (a := 4) (b := 5) rfl rfl) (by decide) mi_X12_in lk_X12_82 rfl (Nat.le_of_ble_eq_true rfl) rfl rfl dX12_set_32 ?_
        intro v58 μ59 h60
        obtain ⟨rfl, rfl⟩ := h60
        refine JJ_r1 ?_
        refine JJ_if_eq (tgt := 49) dX12_set_35 (by decide) (fun _ => ?_) (fun c61 => absurd (by decide) c61)
        have hz1 : isPl s := b2_n.mp c57
        have hz : zokof A 2 s := hz1
        obtain ⟨k, hk1, rfl⟩ := n_of (m := 1) (by decide) (b2_n.mp c57)
        have hk : k < 2 := by omega
        refine JJ_iload_n dX12_set_49 rfl rfl ?_
        refine JJ_i2l dX12_set_50 ?_
        refine JJ_iload_n dX12_set_51 rfl rfl ?_
        refine JJ_iconst (v := 3) dX12_set_52 rfl ?_
        refine JJ_icmp_ne (tgt := 62) dX12_set_53 (by decide) (fun _ => ?_) (fun c62 => absurd c62 (by decide))
        refine JJ_lconst (v := 0) dX12_set_62 rfl ?_
        refine JJ_iload_n dX12_set_63 rfl rfl ?_
        refine JJ_iconst (v := 1) dX12_set_64 rfl ?_
        refine JJ_icmp_ne (tgt := 74) dX12_set_65 (by decide) (fun _ => ?_) (fun c63 => absurd c63 (by decide))
        refine JJ_iload_n dX12_set_74 rfl rfl ?_
        refine JJ_iconst (v := 2) dX12_set_75 rfl ?_
        refine JJ_icmp_eq (tgt := 84) dX12_set_76 (by decide) (fun _ => ?_) (fun c64 => absurd (by decide) c64)
        refine JJ_ldc2 (v := 9) dX12_set_84 tb_1106 ?_
        refine JJ_goto (tgt := 105) dX12_set_87 (by decide) ?_
        refine JJ_callS (rest := []) (kr_in32 (v := v) (lo := 0) (hi := 9) (a := 0) (b := 9) rfl rfl) (by decide) mi_X12_in lk_X12_82 rfl (Nat.le_of_ble_eq_true rfl) rfl rfl dX12_set_105 ?_
        intro v65 μ66 h67
        obtain ⟨rfl, rfl⟩ := h67
        refine JJ_r1 ?_
        refine JJ_if_ne (tgt := 114) dX12_set_108 (by decide) (fun c68 => ?_) (fun c68 => ?_)
        · skip
          refine JJ_iload_n dX12_set_114 rfl rfl ?_
          refine JJ_bipush (v := 6) dX12_set_115 rfl ?_
          refine JJ_icmp_ne (tgt := 127) dX12_set_117 (by decide) (fun _ => ?_) (fun c69 => absurd c69 (by decide))
          refine JJ_aload_n dX12_set_127 rfl rfl ?_
          refine JJ_iload_n dX12_set_128 rfl rfl ?_
          refine JJ_iload_n dX12_set_129 rfl rfl ?_
          refine JJ_callV (rest := []) hR.1 rfl rfl (kr_told (s := nI k) (what := nI 2) hA hg hR hN) (by decide) mi_X12_told lk_X12_112 rfl (Nat.le_of_ble_eq_true rfl) rfl rfl dX12_set_130 ?_
          intro v70 μ71 h72
          obtain ⟨rfl, rfl⟩ := h72
          refine JJ_r1 ?_
          refine JJ_eqi (x2 := A.1 2 k) ((if_pos ⟨⟨by decide, by decide⟩, hz⟩).trans (by rw [show i2n (nI k) = k from nI_clamp (by omega)]; rfl)) ?_
          refine JJ_istore (lv' := [(4, .int (A.1 2 k)), (0, .ref o), (1, .int 2), (2, .int (nI k)), (3, .int v)]) dX12_set_133 (by decide) rfl ?_
          refine JJ_iload_n dX12_set_135 rfl rfl ?_
          refine JJ_if_ne (tgt := 149) dX12_set_136 (by decide) (fun _ => ?_) (fun c73 => absurd c73 (by decide))
          refine JJ_iload_n dX12_set_149 rfl rfl ?_
          refine JJ_iconst (v := 1) dX12_set_150 rfl ?_
          refine JJ_icmp_ne (tgt := 164) dX12_set_151 (by decide) (fun _ => ?_) (fun c74 => absurd c74 (by decide))
          refine JJ_iload_n dX12_set_164 rfl rfl ?_
          refine JJ_iconst (v := 2) dX12_set_165 rfl ?_
          refine JJ_icmp_ne (tgt := 179) dX12_set_166 (by decide) (fun c75 => absurd (by decide) c75) (fun _ => ?_)
          refine JJ_aload_n dX12_set_169 rfl rfl ?_
          refine JJ_getr (q := o + 6) (cis := [12]) (k := 9) fa_X12_29 (by decide) hR.1 rfl (hR.2 (9, 6, 20, 2) (by decide)).1 dX12_set_170 ?_
          refine JJ_iload_n dX12_set_173 rfl rfl ?_
          refine JJ_iload_n dX12_set_174 rfl rfl ?_
          refine JJ_iastX (hR.2 (9, 6, 20, 2) (by decide)).2 (IX_nI (by omega) (by omega)) dX12_set_175 (fun M76 hM77 => ?_)
          refine JJ_goto (tgt := 229) dX12_set_176 (by decide) ?_
          refine JJ_iload dX12_set_229 rfl ?_
          refine JJ_iret dX12_set_231 rfl ?_
          have e0 : zr_set A (nI 2) (nI k) v = (A.1 2 k, zUp A 2 k v) := ((if_pos ⟨⟨by decide, by decide⟩, Or.inr hz, b2_n.mp c68⟩).trans (if_neg (by decide))).trans (by rw [show i2n (nI k) = k from nI_clamp (by omega)]; rfl)
          exact zI_r (by rw [e0]) (by rw [e0, hM77]; exact up_abs hA (LC_2 hk) (by decide)) (fun b k z => rd_n hM77 (fun e => z (by unfold RO; omega)) rfl)
        · skip
          refine JJ_bipush (v := (-100)) dX12_set_111 rfl ?_
          refine JJ_iret dX12_set_113 rfl ?_
          have hn1 := b2_0.mp c68
          have e0 : zr_set A (nI 2) (nI k) v = (-100, A) := zs_n (fun z => hn1 z.2.2)
          exact zI_r (by rw [e0]) (by rw [e0]; exact hA) (fun _ _ _ => rfl)
    · skip
      refine JJ_iload_n dX12_set_12 rfl rfl ?_
      refine JJ_iconst (v := 4) dX12_set_13 rfl ?_
      refine JJ_icmp_ge (tgt := 24) dX12_set_14 (by decide) (fun c78 => absurd c78 (by decide)) (fun _ => ?_)
      refine JJ_iload_n dX12_set_17 rfl rfl ?_
      refine JJ_callS (rest := []) (kr_isPlayer (v := s)) (by decide) mi_X12_isPlayer lk_X12_90 rfl (Nat.le_of_ble_eq_true rfl) rfl rfl dX12_set_18 ?_
      intro v79 μ80 h81
      obtain ⟨rfl, rfl⟩ := h81
      refine JJ_r1 ?_
      refine JJ_if_eq (tgt := 46) dX12_set_21 (by decide) (fun c82 => ?_) (fun c82 => ?_)
      · skip
        refine JJ_bipush (v := (-100)) dX12_set_46 rfl ?_
        refine JJ_iret dX12_set_48 rfl ?_
        have hn1 : ¬ isPl s := b2_0.mp c82
        have e0 : zr_set A (nI 3) s v = (-100, A) := zs_n (fun z => z.2.1.elim (fun e => absurd e (by decide)) (fun e => hn1 e))
        exact zI_r (by rw [e0]) (by rw [e0]; exact hA) (fun _ _ _ => rfl)
      · skip
        refine JJ_iload_n dX12_set_24 rfl rfl ?_
        refine JJ_i2l dX12_set_25 ?_
        refine JJ_ldc2 (v := 4) dX12_set_26 tb_1098 ?_
        refine JJ_ldc2 (v := 5) dX12_set_29 tb_1099 ?_
        refine JJ_callS (rest := []) (kr_in32 (v := (3 : Int32)) (lo := 4) (hi := 5) (a := 4) (b := 5) rfl rfl) (by decide) mi_X12_in lk_X12_82 rfl (Nat.le_of_ble_eq_true rfl) rfl rfl dX12_set_32 ?_
        intro v83 μ84 h85
        obtain ⟨rfl, rfl⟩ := h85
        refine JJ_r1 ?_
        refine JJ_if_eq (tgt := 49) dX12_set_35 (by decide) (fun _ => ?_) (fun c86 => absurd (by decide) c86)
        have hz1 : isPl s := b2_n.mp c82
        have hz : zokof A 3 s := hz1
        obtain ⟨k, hk1, rfl⟩ := n_of (m := 1) (by decide) (b2_n.mp c82)
        have hk : k < 2 := by omega
        refine JJ_iload_n dX12_set_49 rfl rfl ?_
        refine JJ_i2l dX12_set_50 ?_
        refine JJ_iload_n dX12_set_51 rfl rfl ?_
        refine JJ_iconst (v := 3) dX12_set_52 rfl ?_
        refine JJ_icmp_ne (tgt := 62) dX12_set_53 (by decide) (fun c87 => absurd (by decide) c87) (fun _ => ?_)
        refine JJ_ldc2 (v := (-1)) dX12_set_56 tb_1104 ?_
        refine JJ_goto (tgt := 63) dX12_set_59 (by decide) ?_
        refine JJ_iload_n dX12_set_63 rfl rfl ?_
        refine JJ_iconst (v := 1) dX12_set_64 rfl ?_
        refine JJ_icmp_ne (tgt := 74) dX12_set_65 (by decide) (fun _ => ?_) (fun c88 => absurd c88 (by decide))
        refine JJ_iload_n dX12_set_74 rfl rfl ?_
        refine JJ_iconst (v := 2) dX12_set_75 rfl ?_
        refine JJ_icmp_eq (tgt := 84) dX12_set_76 (by decide) (fun c89 => absurd c89 (by decide)) (fun _ => ?_)
        refine JJ_iload_n dX12_set_79 rfl rfl ?_
        refine JJ_iconst (v := 4) dX12_set_80 rfl ?_
        refine JJ_icmp_ne (tgt := 90) dX12_set_81 (by decide) (fun _ => ?_) (fun c90 => absurd c90 (by decide))
        refine JJ_iload_n dX12_set_90 rfl rfl ?_
        refine JJ_bipush (v := 6) dX12_set_91 rfl ?_
        refine JJ_icmp_ne (tgt := 102) dX12_set_93 (by decide) (fun _ => ?_) (fun c91 => absurd c91 (by decide))
        refine JJ_ldc2 (v := 24) dX12_set_102 tb_1108 ?_
        refine JJ_callS (rest := []) (kr_in32 (v := v) (lo := (-1)) (hi := 24) (a := -1) (b := 24) rfl rfl) (by decide) mi_X12_in lk_X12_82 rfl (Nat.le_of_ble_eq_true rfl) rfl rfl dX12_set_105 ?_
        intro v92 μ93 h94
        obtain ⟨rfl, rfl⟩ := h94
        refine JJ_r1 ?_
        refine JJ_if_ne (tgt := 114) dX12_set_108 (by decide) (fun c95 => ?_) (fun c95 => ?_)
        · skip
          refine JJ_iload_n dX12_set_114 rfl rfl ?_
          refine JJ_bipush (v := 6) dX12_set_115 rfl ?_
          refine JJ_icmp_ne (tgt := 127) dX12_set_117 (by decide) (fun _ => ?_) (fun c96 => absurd c96 (by decide))
          refine JJ_aload_n dX12_set_127 rfl rfl ?_
          refine JJ_iload_n dX12_set_128 rfl rfl ?_
          refine JJ_iload_n dX12_set_129 rfl rfl ?_
          refine JJ_callV (rest := []) hR.1 rfl rfl (kr_told (s := nI k) (what := nI 3) hA hg hR hN) (by decide) mi_X12_told lk_X12_112 rfl (Nat.le_of_ble_eq_true rfl) rfl rfl dX12_set_130 ?_
          intro v97 μ98 h99
          obtain ⟨rfl, rfl⟩ := h99
          refine JJ_r1 ?_
          refine JJ_eqi (x2 := A.1 3 k) ((if_pos ⟨⟨by decide, by decide⟩, hz⟩).trans (by rw [show i2n (nI k) = k from nI_clamp (by omega)]; rfl)) ?_
          refine JJ_istore (lv' := [(4, .int (A.1 3 k)), (0, .ref o), (1, .int 3), (2, .int (nI k)), (3, .int v)]) dX12_set_133 (by decide) rfl ?_
          refine JJ_iload_n dX12_set_135 rfl rfl ?_
          refine JJ_if_ne (tgt := 149) dX12_set_136 (by decide) (fun _ => ?_) (fun c100 => absurd c100 (by decide))
          refine JJ_iload_n dX12_set_149 rfl rfl ?_
          refine JJ_iconst (v := 1) dX12_set_150 rfl ?_
          refine JJ_icmp_ne (tgt := 164) dX12_set_151 (by decide) (fun _ => ?_) (fun c101 => absurd c101 (by decide))
          refine JJ_iload_n dX12_set_164 rfl rfl ?_
          refine JJ_iconst (v := 2) dX12_set_165 rfl ?_
          refine JJ_icmp_ne (tgt := 179) dX12_set_166 (by decide) (fun _ => ?_) (fun c102 => absurd c102 (by decide))
          refine JJ_iload_n dX12_set_179 rfl rfl ?_
          refine JJ_iconst (v := 3) dX12_set_180 rfl ?_
          refine JJ_icmp_ne (tgt := 194) dX12_set_181 (by decide) (fun c103 => absurd (by decide) c103) (fun _ => ?_)
          refine JJ_aload_n dX12_set_184 rfl rfl ?_
          refine JJ_getr (q := o + 7) (cis := [12]) (k := 10) fa_X12_32 (by decide) hR.1 rfl (hR.2 (10, 7, 20, 2) (by decide)).1 dX12_set_185 ?_
          refine JJ_iload_n dX12_set_188 rfl rfl ?_
          refine JJ_iload_n dX12_set_189 rfl rfl ?_
          refine JJ_iastX (hR.2 (10, 7, 20, 2) (by decide)).2 (IX_nI (by omega) (by omega)) dX12_set_190 (fun M104 hM105 => ?_)
          refine JJ_goto (tgt := 229) dX12_set_191 (by decide) ?_
          refine JJ_iload dX12_set_229 rfl ?_
          refine JJ_iret dX12_set_231 rfl ?_
          have e0 : zr_set A (nI 3) (nI k) v = (A.1 3 k, zUp A 3 k v) := ((if_pos ⟨⟨by decide, by decide⟩, Or.inr hz, b2_n.mp c95⟩).trans (if_neg (by decide))).trans (by rw [show i2n (nI k) = k from nI_clamp (by omega)]; rfl)
          exact zI_r (by rw [e0]) (by rw [e0, hM105]; exact up_abs hA (LC_3 hk) (by decide)) (fun b k z => rd_n hM105 (fun e => z (by unfold RO; omega)) rfl)
        · skip
          refine JJ_bipush (v := (-100)) dX12_set_111 rfl ?_
          refine JJ_iret dX12_set_113 rfl ?_
          have hn1 := b2_0.mp c95
          have e0 : zr_set A (nI 3) (nI k) v = (-100, A) := zs_n (fun z => hn1 z.2.2)
          exact zI_r (by rw [e0]) (by rw [e0]; exact hA) (fun _ _ _ => rfl)
    · skip
      refine JJ_iload_n dX12_set_12 rfl rfl ?_
      refine JJ_iconst (v := 4) dX12_set_13 rfl ?_
      refine JJ_icmp_ge (tgt := 24) dX12_set_14 (by decide) (fun _ => ?_) (fun c106 => absurd (by decide) c106)
      refine JJ_iload_n dX12_set_24 rfl rfl ?_
      refine JJ_i2l dX12_set_25 ?_
      refine JJ_ldc2 (v := 4) dX12_set_26 tb_1098 ?_
      refine JJ_ldc2 (v := 5) dX12_set_29 tb_1099 ?_
      refine JJ_callS (rest := []) (kr_in32 (v := (4 : Int32)) (lo := 4) (hi := 5) (a := 4) (b := 5) rfl rfl) (by decide) mi_X12_in lk_X12_82 rfl (Nat.le_of_ble_eq_true rfl) rfl rfl dX12_set_32 ?_
      intro v107 μ108 h109
      obtain ⟨rfl, rfl⟩ := h109
      refine JJ_r1 ?_
      refine JJ_if_eq (tgt := 49) dX12_set_35 (by decide) (fun c110 => absurd c110 (by decide)) (fun _ => ?_)
      refine JJ_aload_n dX12_set_38 rfl rfl ?_
      refine JJ_iload_n dX12_set_39 rfl rfl ?_
      refine JJ_callV (rest := []) hR.1 rfl rfl (kr_isStroke (v := s) hR hN) (by decide) mi_X12_isStroke lk_X12_98 rfl (Nat.le_of_ble_eq_true rfl) rfl rfl dX12_set_40 ?_
      intro v111 μ112 h113
      obtain ⟨rfl, rfl⟩ := h113
      refine JJ_r1 ?_
      refine JJ_eqi (x2 := b2 (isSk A s)) (b2_c (by show _ ↔ (0 ≤ _ ∧ _ ≤ (A.1 8 0 - 1).toInt); rw [hA.cnt])) ?_
      refine JJ_if_ne (tgt := 49) dX12_set_43 (by decide) (fun c114 => ?_) (fun c114 => ?_)
      · skip
        have hz1 : isSk A s := b2_n.mp c114
        have hz : zokof A 4 s := hz1
        obtain ⟨k, hk, hkc, rfl⟩ := sk_of hg (b2_n.mp c114)
        refine JJ_iload_n dX12_set_49 rfl rfl ?_
        refine JJ_i2l dX12_set_50 ?_
        refine JJ_iload_n dX12_set_51 rfl rfl ?_
        refine JJ_iconst (v := 3) dX12_set_52 rfl ?_
        refine JJ_icmp_ne (tgt := 62) dX12_set_53 (by decide) (fun _ => ?_) (fun c115 => absurd c115 (by decide))
        refine JJ_lconst (v := 0) dX12_set_62 rfl ?_
        refine JJ_iload_n dX12_set_63 rfl rfl ?_
        refine JJ_iconst (v := 1) dX12_set_64 rfl ?_
        refine JJ_icmp_ne (tgt := 74) dX12_set_65 (by decide) (fun _ => ?_) (fun c116 => absurd c116 (by decide))
        refine JJ_iload_n dX12_set_74 rfl rfl ?_
        refine JJ_iconst (v := 2) dX12_set_75 rfl ?_
        refine JJ_icmp_eq (tgt := 84) dX12_set_76 (by decide) (fun c117 => absurd c117 (by decide)) (fun _ => ?_)
        refine JJ_iload_n dX12_set_79 rfl rfl ?_
        refine JJ_iconst (v := 4) dX12_set_80 rfl ?_
        refine JJ_icmp_ne (tgt := 90) dX12_set_81 (by decide) (fun c118 => absurd (by decide) c118) (fun _ => ?_)
        refine JJ_ldc2 (v := 9) dX12_set_84 tb_1106 ?_
        refine JJ_goto (tgt := 105) dX12_set_87 (by decide) ?_
        refine JJ_callS (rest := []) (kr_in32 (v := v) (lo := 0) (hi := 9) (a := 0) (b := 9) rfl rfl) (by decide) mi_X12_in lk_X12_82 rfl (Nat.le_of_ble_eq_true rfl) rfl rfl dX12_set_105 ?_
        intro v119 μ120 h121
        obtain ⟨rfl, rfl⟩ := h121
        refine JJ_r1 ?_
        refine JJ_if_ne (tgt := 114) dX12_set_108 (by decide) (fun c122 => ?_) (fun c122 => ?_)
        · skip
          refine JJ_iload_n dX12_set_114 rfl rfl ?_
          refine JJ_bipush (v := 6) dX12_set_115 rfl ?_
          refine JJ_icmp_ne (tgt := 127) dX12_set_117 (by decide) (fun _ => ?_) (fun c123 => absurd c123 (by decide))
          refine JJ_aload_n dX12_set_127 rfl rfl ?_
          refine JJ_iload_n dX12_set_128 rfl rfl ?_
          refine JJ_iload_n dX12_set_129 rfl rfl ?_
          refine JJ_callV (rest := []) hR.1 rfl rfl (kr_told (s := nI k) (what := nI 4) hA hg hR hN) (by decide) mi_X12_told lk_X12_112 rfl (Nat.le_of_ble_eq_true rfl) rfl rfl dX12_set_130 ?_
          intro v124 μ125 h126
          obtain ⟨rfl, rfl⟩ := h126
          refine JJ_r1 ?_
          refine JJ_eqi (x2 := A.1 6 k) ((if_pos ⟨⟨by decide, by decide⟩, hz⟩).trans (by rw [show i2n (nI k) = k from nI_clamp (by omega)]; rfl)) ?_
          refine JJ_istore (lv' := [(4, .int (A.1 6 k)), (0, .ref o), (1, .int 4), (2, .int (nI k)), (3, .int v)]) dX12_set_133 (by decide) rfl ?_
          refine JJ_iload_n dX12_set_135 rfl rfl ?_
          refine JJ_if_ne (tgt := 149) dX12_set_136 (by decide) (fun _ => ?_) (fun c127 => absurd c127 (by decide))
          refine JJ_iload_n dX12_set_149 rfl rfl ?_
          refine JJ_iconst (v := 1) dX12_set_150 rfl ?_
          refine JJ_icmp_ne (tgt := 164) dX12_set_151 (by decide) (fun _ => ?_) (fun c128 => absurd c128 (by decide))
          refine JJ_iload_n dX12_set_164 rfl rfl ?_
          refine JJ_iconst (v := 2) dX12_set_165 rfl ?_
          refine JJ_icmp_ne (tgt := 179) dX12_set_166 (by decide) (fun _ => ?_) (fun c129 => absurd c129 (by decide))
          refine JJ_iload_n dX12_set_179 rfl rfl ?_
          refine JJ_iconst (v := 3) dX12_set_180 rfl ?_
          refine JJ_icmp_ne (tgt := 194) dX12_set_181 (by decide) (fun _ => ?_) (fun c130 => absurd c130 (by decide))
          refine JJ_iload_n dX12_set_194 rfl rfl ?_
          refine JJ_iconst (v := 4) dX12_set_195 rfl ?_
          refine JJ_icmp_ne (tgt := 209) dX12_set_196 (by decide) (fun c131 => absurd (by decide) c131) (fun _ => ?_)
          refine JJ_aload_n dX12_set_199 rfl rfl ?_
          refine JJ_getr (q := o + 9) (cis := [12]) (k := 13) fa_X12_38 (by decide) hR.1 rfl (hR.2 (13, 9, 20, 6) (by decide)).1 dX12_set_200 ?_
          refine JJ_iload_n dX12_set_203 rfl rfl ?_
          refine JJ_iload_n dX12_set_204 rfl rfl ?_
          refine JJ_iastX (hR.2 (13, 9, 20, 6) (by decide)).2 (IX_nI (by omega) (by omega)) dX12_set_205 (fun M132 hM133 => ?_)
          refine JJ_goto (tgt := 229) dX12_set_206 (by decide) ?_
          refine JJ_iload dX12_set_229 rfl ?_
          refine JJ_iret dX12_set_231 rfl ?_
          have e0 : zr_set A (nI 4) (nI k) v = (A.1 6 k, zUp A 6 k v) := ((if_pos ⟨⟨by decide, by decide⟩, Or.inr hz, b2_n.mp c122⟩).trans (if_neg (by decide))).trans (by rw [show i2n (nI k) = k from nI_clamp (by omega)]; rfl)
          exact zI_r (by rw [e0]) (by rw [e0, hM133]; exact up_abs hA (LC_6 hk) (by decide)) (fun b k z => rd_n hM133 (fun e => z (by unfold RO; omega)) rfl)
        · skip
          refine JJ_bipush (v := (-100)) dX12_set_111 rfl ?_
          refine JJ_iret dX12_set_113 rfl ?_
          have hn1 := b2_0.mp c122
          have e0 : zr_set A (nI 4) (nI k) v = (-100, A) := zs_n (fun z => hn1 z.2.2)
          exact zI_r (by rw [e0]) (by rw [e0]; exact hA) (fun _ _ _ => rfl)
      · skip
        refine JJ_bipush (v := (-100)) dX12_set_46 rfl ?_
        refine JJ_iret dX12_set_48 rfl ?_
        have hn1 : ¬ isSk A s := b2_0.mp c114
        have e0 : zr_set A (nI 4) s v = (-100, A) := zs_n (fun z => z.2.1.elim (fun e => absurd e (by decide)) (fun e => hn1 e))
        exact zI_r (by rw [e0]) (by rw [e0]; exact hA) (fun _ _ _ => rfl)
    · skip
      refine JJ_iload_n dX12_set_12 rfl rfl ?_
      refine JJ_iconst (v := 4) dX12_set_13 rfl ?_
      refine JJ_icmp_ge (tgt := 24) dX12_set_14 (by decide) (fun _ => ?_) (fun c134 => absurd (by decide) c134)
      refine JJ_iload_n dX12_set_24 rfl rfl ?_
      refine JJ_i2l dX12_set_25 ?_
      refine JJ_ldc2 (v := 4) dX12_set_26 tb_1098 ?_
      refine JJ_ldc2 (v := 5) dX12_set_29 tb_1099 ?_
      refine JJ_callS (rest := []) (kr_in32 (v := (5 : Int32)) (lo := 4) (hi := 5) (a := 4) (b := 5) rfl rfl) (by decide) mi_X12_in lk_X12_82 rfl (Nat.le_of_ble_eq_true rfl) rfl rfl dX12_set_32 ?_
      intro v135 μ136 h137
      obtain ⟨rfl, rfl⟩ := h137
      refine JJ_r1 ?_
      refine JJ_if_eq (tgt := 49) dX12_set_35 (by decide) (fun c138 => absurd c138 (by decide)) (fun _ => ?_)
      refine JJ_aload_n dX12_set_38 rfl rfl ?_
      refine JJ_iload_n dX12_set_39 rfl rfl ?_
      refine JJ_callV (rest := []) hR.1 rfl rfl (kr_isStroke (v := s) hR hN) (by decide) mi_X12_isStroke lk_X12_98 rfl (Nat.le_of_ble_eq_true rfl) rfl rfl dX12_set_40 ?_
      intro v139 μ140 h141
      obtain ⟨rfl, rfl⟩ := h141
      refine JJ_r1 ?_
      refine JJ_eqi (x2 := b2 (isSk A s)) (b2_c (by show _ ↔ (0 ≤ _ ∧ _ ≤ (A.1 8 0 - 1).toInt); rw [hA.cnt])) ?_
      refine JJ_if_ne (tgt := 49) dX12_set_43 (by decide) (fun c142 => ?_) (fun c142 => ?_)
      · skip
        have hz1 : isSk A s := b2_n.mp c142
        have hz : zokof A 5 s := hz1
        obtain ⟨k, hk, hkc, rfl⟩ := sk_of hg (b2_n.mp c142)
        refine JJ_iload_n dX12_set_49 rfl rfl ?_
        refine JJ_i2l dX12_set_50 ?_
        refine JJ_iload_n dX12_set_51 rfl rfl ?_
        refine JJ_iconst (v := 3) dX12_set_52 rfl ?_
        refine JJ_icmp_ne (tgt := 62) dX12_set_53 (by decide) (fun _ => ?_) (fun c143 => absurd c143 (by decide))
        refine JJ_lconst (v := 0) dX12_set_62 rfl ?_
        refine JJ_iload_n dX12_set_63 rfl rfl ?_
        refine JJ_iconst (v := 1) dX12_set_64 rfl ?_
        refine JJ_icmp_ne (tgt := 74) dX12_set_65 (by decide) (fun _ => ?_) (fun c144 => absurd c144 (by decide))
        refine JJ_iload_n dX12_set_74 rfl rfl ?_
        refine JJ_iconst (v := 2) dX12_set_75 rfl ?_
        refine JJ_icmp_eq (tgt := 84) dX12_set_76 (by decide) (fun c145 => absurd c145 (by decide)) (fun _ => ?_)
        refine JJ_iload_n dX12_set_79 rfl rfl ?_
        refine JJ_iconst (v := 4) dX12_set_80 rfl ?_
        refine JJ_icmp_ne (tgt := 90) dX12_set_81 (by decide) (fun _ => ?_) (fun c146 => absurd c146 (by decide))
        refine JJ_iload_n dX12_set_90 rfl rfl ?_
        refine JJ_bipush (v := 6) dX12_set_91 rfl ?_
        refine JJ_icmp_ne (tgt := 102) dX12_set_93 (by decide) (fun _ => ?_) (fun c147 => absurd c147 (by decide))
        refine JJ_ldc2 (v := 24) dX12_set_102 tb_1108 ?_
        refine JJ_callS (rest := []) (kr_in32 (v := v) (lo := 0) (hi := 24) (a := 0) (b := 24) rfl rfl) (by decide) mi_X12_in lk_X12_82 rfl (Nat.le_of_ble_eq_true rfl) rfl rfl dX12_set_105 ?_
        intro v148 μ149 h150
        obtain ⟨rfl, rfl⟩ := h150
        refine JJ_r1 ?_
        refine JJ_if_ne (tgt := 114) dX12_set_108 (by decide) (fun c151 => ?_) (fun c151 => ?_)
        · skip
          refine JJ_iload_n dX12_set_114 rfl rfl ?_
          refine JJ_bipush (v := 6) dX12_set_115 rfl ?_
          refine JJ_icmp_ne (tgt := 127) dX12_set_117 (by decide) (fun _ => ?_) (fun c152 => absurd c152 (by decide))
          refine JJ_aload_n dX12_set_127 rfl rfl ?_
          refine JJ_iload_n dX12_set_128 rfl rfl ?_
          refine JJ_iload_n dX12_set_129 rfl rfl ?_
          refine JJ_callV (rest := []) hR.1 rfl rfl (kr_told (s := nI k) (what := nI 5) hA hg hR hN) (by decide) mi_X12_told lk_X12_112 rfl (Nat.le_of_ble_eq_true rfl) rfl rfl dX12_set_130 ?_
          intro v153 μ154 h155
          obtain ⟨rfl, rfl⟩ := h155
          refine JJ_r1 ?_
          refine JJ_eqi (x2 := A.1 7 k) ((if_pos ⟨⟨by decide, by decide⟩, hz⟩).trans (by rw [show i2n (nI k) = k from nI_clamp (by omega)]; rfl)) ?_
          refine JJ_istore (lv' := [(4, .int (A.1 7 k)), (0, .ref o), (1, .int 5), (2, .int (nI k)), (3, .int v)]) dX12_set_133 (by decide) rfl ?_
          refine JJ_iload_n dX12_set_135 rfl rfl ?_
          refine JJ_if_ne (tgt := 149) dX12_set_136 (by decide) (fun _ => ?_) (fun c156 => absurd c156 (by decide))
          refine JJ_iload_n dX12_set_149 rfl rfl ?_
          refine JJ_iconst (v := 1) dX12_set_150 rfl ?_
          refine JJ_icmp_ne (tgt := 164) dX12_set_151 (by decide) (fun _ => ?_) (fun c157 => absurd c157 (by decide))
          refine JJ_iload_n dX12_set_164 rfl rfl ?_
          refine JJ_iconst (v := 2) dX12_set_165 rfl ?_
          refine JJ_icmp_ne (tgt := 179) dX12_set_166 (by decide) (fun _ => ?_) (fun c158 => absurd c158 (by decide))
          refine JJ_iload_n dX12_set_179 rfl rfl ?_
          refine JJ_iconst (v := 3) dX12_set_180 rfl ?_
          refine JJ_icmp_ne (tgt := 194) dX12_set_181 (by decide) (fun _ => ?_) (fun c159 => absurd c159 (by decide))
          refine JJ_iload_n dX12_set_194 rfl rfl ?_
          refine JJ_iconst (v := 4) dX12_set_195 rfl ?_
          refine JJ_icmp_ne (tgt := 209) dX12_set_196 (by decide) (fun _ => ?_) (fun c160 => absurd c160 (by decide))
          refine JJ_iload_n dX12_set_209 rfl rfl ?_
          refine JJ_iconst (v := 5) dX12_set_210 rfl ?_
          refine JJ_icmp_ne (tgt := 224) dX12_set_211 (by decide) (fun c161 => absurd (by decide) c161) (fun _ => ?_)
          refine JJ_aload_n dX12_set_214 rfl rfl ?_
          refine JJ_getr (q := o + 10) (cis := [12]) (k := 14) fa_X12_41 (by decide) hR.1 rfl (hR.2 (14, 10, 20, 6) (by decide)).1 dX12_set_215 ?_
          refine JJ_iload_n dX12_set_218 rfl rfl ?_
          refine JJ_iload_n dX12_set_219 rfl rfl ?_
          refine JJ_iastX (hR.2 (14, 10, 20, 6) (by decide)).2 (IX_nI (by omega) (by omega)) dX12_set_220 (fun M162 hM163 => ?_)
          refine JJ_goto (tgt := 229) dX12_set_221 (by decide) ?_
          refine JJ_iload dX12_set_229 rfl ?_
          refine JJ_iret dX12_set_231 rfl ?_
          have e0 : zr_set A (nI 5) (nI k) v = (A.1 7 k, zUp A 7 k v) := ((if_pos ⟨⟨by decide, by decide⟩, Or.inr hz, b2_n.mp c151⟩).trans (if_neg (by decide))).trans (by rw [show i2n (nI k) = k from nI_clamp (by omega)]; rfl)
          exact zI_r (by rw [e0]) (by rw [e0, hM163]; exact up_abs hA (LC_7 hk) (by decide)) (fun b k z => rd_n hM163 (fun e => z (by unfold RO; omega)) rfl)
        · skip
          refine JJ_bipush (v := (-100)) dX12_set_111 rfl ?_
          refine JJ_iret dX12_set_113 rfl ?_
          have hn1 := b2_0.mp c151
          have e0 : zr_set A (nI 5) (nI k) v = (-100, A) := zs_n (fun z => hn1 z.2.2)
          exact zI_r (by rw [e0]) (by rw [e0]; exact hA) (fun _ _ _ => rfl)
      · skip
        refine JJ_bipush (v := (-100)) dX12_set_46 rfl ?_
        refine JJ_iret dX12_set_48 rfl ?_
        have hn1 : ¬ isSk A s := b2_0.mp c142
        have e0 : zr_set A (nI 5) s v = (-100, A) := zs_n (fun z => z.2.1.elim (fun e => absurd e (by decide)) (fun e => hn1 e))
        exact zI_r (by rw [e0]) (by rw [e0]; exact hA) (fun _ _ _ => rfl)
    · skip
      refine JJ_iload_n dX12_set_12 rfl rfl ?_
      refine JJ_iconst (v := 4) dX12_set_13 rfl ?_
      refine JJ_icmp_ge (tgt := 24) dX12_set_14 (by decide) (fun _ => ?_) (fun c164 => absurd (by decide) c164)
      refine JJ_iload_n dX12_set_24 rfl rfl ?_
      refine JJ_i2l dX12_set_25 ?_
      refine JJ_ldc2 (v := 4) dX12_set_26 tb_1098 ?_
      refine JJ_ldc2 (v := 5) dX12_set_29 tb_1099 ?_
      refine JJ_callS (rest := []) (kr_in32 (v := (6 : Int32)) (lo := 4) (hi := 5) (a := 4) (b := 5) rfl rfl) (by decide) mi_X12_in lk_X12_82 rfl (Nat.le_of_ble_eq_true rfl) rfl rfl dX12_set_32 ?_
      intro v165 μ166 h167
      obtain ⟨rfl, rfl⟩ := h167
      refine JJ_r1 ?_
      refine JJ_if_eq (tgt := 49) dX12_set_35 (by decide) (fun _ => ?_) (fun c168 => absurd (by decide) c168)
      refine JJ_iload_n dX12_set_49 rfl rfl ?_
      refine JJ_i2l dX12_set_50 ?_
      refine JJ_iload_n dX12_set_51 rfl rfl ?_
      refine JJ_iconst (v := 3) dX12_set_52 rfl ?_
      refine JJ_icmp_ne (tgt := 62) dX12_set_53 (by decide) (fun _ => ?_) (fun c169 => absurd c169 (by decide))
      refine JJ_lconst (v := 0) dX12_set_62 rfl ?_
      refine JJ_iload_n dX12_set_63 rfl rfl ?_
      refine JJ_iconst (v := 1) dX12_set_64 rfl ?_
      refine JJ_icmp_ne (tgt := 74) dX12_set_65 (by decide) (fun _ => ?_) (fun c170 => absurd c170 (by decide))
      refine JJ_iload_n dX12_set_74 rfl rfl ?_
      refine JJ_iconst (v := 2) dX12_set_75 rfl ?_
      refine JJ_icmp_eq (tgt := 84) dX12_set_76 (by decide) (fun c171 => absurd c171 (by decide)) (fun _ => ?_)
      refine JJ_iload_n dX12_set_79 rfl rfl ?_
      refine JJ_iconst (v := 4) dX12_set_80 rfl ?_
      refine JJ_icmp_ne (tgt := 90) dX12_set_81 (by decide) (fun _ => ?_) (fun c172 => absurd c172 (by decide))
      refine JJ_iload_n dX12_set_90 rfl rfl ?_
      refine JJ_bipush (v := 6) dX12_set_91 rfl ?_
      refine JJ_icmp_ne (tgt := 102) dX12_set_93 (by decide) (fun c173 => absurd (by decide) c173) (fun _ => ?_)
      refine JJ_ldc2 (v := 99) dX12_set_96 tb_1107 ?_
      refine JJ_goto (tgt := 105) dX12_set_99 (by decide) ?_
      refine JJ_callS (rest := []) (kr_in32 (v := v) (lo := 0) (hi := 99) (a := 0) (b := 99) rfl rfl) (by decide) mi_X12_in lk_X12_82 rfl (Nat.le_of_ble_eq_true rfl) rfl rfl dX12_set_105 ?_
      intro v174 μ175 h176
      obtain ⟨rfl, rfl⟩ := h176
      refine JJ_r1 ?_
      refine JJ_if_ne (tgt := 114) dX12_set_108 (by decide) (fun c177 => ?_) (fun c177 => ?_)
      · skip
        refine JJ_iload_n dX12_set_114 rfl rfl ?_
        refine JJ_bipush (v := 6) dX12_set_115 rfl ?_
        refine JJ_icmp_ne (tgt := 127) dX12_set_117 (by decide) (fun c178 => absurd (by decide) c178) (fun _ => ?_)
        refine JJ_aload_n dX12_set_120 rfl rfl ?_
        refine JJ_geti (v := A.1 4 0) (cis := [12]) (k := 11) fa_X12_109 (by decide) hR.1 rfl (hN.1 11 (by decide)) hA.c11 dX12_set_121 ?_
        refine JJ_goto (tgt := 133) dX12_set_124 (by decide) ?_
        refine JJ_istore (lv' := [(4, .int (A.1 4 0)), (0, .ref o), (1, .int 6), (2, .int s), (3, .int v)]) dX12_set_133 (by decide) rfl ?_
        refine JJ_iload_n dX12_set_135 rfl rfl ?_
        refine JJ_if_ne (tgt := 149) dX12_set_136 (by decide) (fun _ => ?_) (fun c179 => absurd c179 (by decide))
        refine JJ_iload_n dX12_set_149 rfl rfl ?_
        refine JJ_iconst (v := 1) dX12_set_150 rfl ?_
        refine JJ_icmp_ne (tgt := 164) dX12_set_151 (by decide) (fun _ => ?_) (fun c180 => absurd c180 (by decide))
        refine JJ_iload_n dX12_set_164 rfl rfl ?_
        refine JJ_iconst (v := 2) dX12_set_165 rfl ?_
        refine JJ_icmp_ne (tgt := 179) dX12_set_166 (by decide) (fun _ => ?_) (fun c181 => absurd c181 (by decide))
        refine JJ_iload_n dX12_set_179 rfl rfl ?_
        refine JJ_iconst (v := 3) dX12_set_180 rfl ?_
        refine JJ_icmp_ne (tgt := 194) dX12_set_181 (by decide) (fun _ => ?_) (fun c182 => absurd c182 (by decide))
        refine JJ_iload_n dX12_set_194 rfl rfl ?_
        refine JJ_iconst (v := 4) dX12_set_195 rfl ?_
        refine JJ_icmp_ne (tgt := 209) dX12_set_196 (by decide) (fun _ => ?_) (fun c183 => absurd c183 (by decide))
        refine JJ_iload_n dX12_set_209 rfl rfl ?_
        refine JJ_iconst (v := 5) dX12_set_210 rfl ?_
        refine JJ_icmp_ne (tgt := 224) dX12_set_211 (by decide) (fun _ => ?_) (fun c184 => absurd c184 (by decide))
        refine JJ_aload_n dX12_set_224 rfl rfl ?_
        refine JJ_iload_n dX12_set_225 rfl rfl ?_
        refine JJ_puti (cis := [12]) (k := 11) fa_X12_109 (by decide) hR.1 rfl (fun r hr => by cases hr; exact ⟨rfl, by decide +kernel⟩) dX12_set_226 (fun M185 hM186 => ?_)
        refine JJ_iload dX12_set_229 rfl ?_
        refine JJ_iret dX12_set_231 rfl ?_
        have e0 : zr_set A (nI 6) s v = (A.1 4 0, zUp A 4 0 v) := (if_pos ⟨⟨by decide, by decide⟩, Or.inl rfl, b2_n.mp c177⟩).trans (if_pos rfl)
        exact zI_r (by rw [e0]) (by rw [e0, hM186]; exact up_abs hA LC_4 (by decide)) (fun b k z => rd_n hM186 (fun e => z (by unfold RO; omega)) rfl)
      · skip
        refine JJ_bipush (v := (-100)) dX12_set_111 rfl ?_
        refine JJ_iret dX12_set_113 rfl ?_
        have hn1 := b2_0.mp c177
        have e0 : zr_set A (nI 6) s v = (-100, A) := zs_n (fun z => hn1 z.2.2)
        exact zI_r (by rw [e0]) (by rw [e0]; exact hA) (fun _ _ _ => rfl)
set_option maxHeartbeats 4000000 in
set_option maxRecDepth 100000 in
theorem kr_stroke {kind number aim : Int32} {A : Abs} (hA : rABS o M A) (hg : RNG A) (hR : RWF o S P) (hN : HSR o sc) : KK G sc yX12_stroke cX12_stroke 4 (some .int) 4 0 0 [.ref o, .int kind, .int number, .int aim] (n, S, M, L, P) (zI o n S M P (zr_stroke A kind number aim).1 (zr_stroke A kind number aim).2) := by
  refine KK_of2 [(0, .ref o), (1, .int kind), (2, .int number), (3, .int aim)] (by decide +kernel) (Nat.le_of_ble_eq_true rfl) rfl ?_
  refine JJ_iload_n dX12_stroke_0 rfl rfl ?_
  refine JJ_i2l dX12_stroke_1 ?_
  refine JJ_lconst (v := 0) dX12_stroke_2 rfl ?_
  refine JJ_ldc2 (v := 5) dX12_stroke_3 tb_1099 ?_
  refine JJ_callS (rest := []) (kr_in32 (v := kind) (lo := 0) (hi := 5) (a := 0) (b := 5) rfl rfl) (by decide) mi_X12_in lk_X12_82 rfl (Nat.le_of_ble_eq_true rfl) rfl rfl dX12_stroke_6 ?_
  intro v1 μ2 h3
  obtain ⟨rfl, rfl⟩ := h3
  refine JJ_r1 ?_
  refine JJ_if_eq (tgt := 31) dX12_stroke_9 (by decide) (fun c4 => ?_) (fun c4 => ?_)
  · skip
    refine JJ_bipush (v := (-2)) dX12_stroke_31 rfl ?_
    refine JJ_iret dX12_stroke_33 rfl ?_
    have e0 : zr_stroke A kind number aim = (-2, A) := if_pos (fun z => b2_0.mp c4 z.1)
    exact zI_r (by rw [e0]) (by rw [e0]; exact hA) (fun _ _ _ => rfl)
  · skip
    refine JJ_iload_n dX12_stroke_12 rfl rfl ?_
    refine JJ_i2l dX12_stroke_13 ?_
    refine JJ_lconst (v := 0) dX12_stroke_14 rfl ?_
    refine JJ_ldc2 (v := 9) dX12_stroke_15 tb_1106 ?_
    refine JJ_callS (rest := []) (kr_in32 (v := number) (lo := 0) (hi := 9) (a := 0) (b := 9) rfl rfl) (by decide) mi_X12_in lk_X12_82 rfl (Nat.le_of_ble_eq_true rfl) rfl rfl dX12_stroke_18 ?_
    intro v5 μ6 h7
    obtain ⟨rfl, rfl⟩ := h7
    refine JJ_r1 ?_
    refine JJ_if_eq (tgt := 31) dX12_stroke_21 (by decide) (fun c8 => ?_) (fun c8 => ?_)
    · skip
      refine JJ_bipush (v := (-2)) dX12_stroke_31 rfl ?_
      refine JJ_iret dX12_stroke_33 rfl ?_
      have e0 : zr_stroke A kind number aim = (-2, A) := if_pos (fun z => b2_0.mp c8 z.2.1)
      exact zI_r (by rw [e0]) (by rw [e0]; exact hA) (fun _ _ _ => rfl)
    · skip
      refine JJ_iload_n dX12_stroke_24 rfl rfl ?_
      refine JJ_callS (rest := []) (kr_isCell (v := aim)) (by decide) mi_X12_isCell lk_X12_116 rfl (Nat.le_of_ble_eq_true rfl) rfl rfl dX12_stroke_25 ?_
      intro v9 μ10 h11
      obtain ⟨rfl, rfl⟩ := h11
      refine JJ_r1 ?_
      refine JJ_if_ne (tgt := 34) dX12_stroke_28 (by decide) (fun c12 => ?_) (fun c12 => ?_)
      · skip
        obtain ⟨cn, hc6, hcA, hcZ⟩ := cnt_e hg
        have hcM : M o 15 = nI cn := hA.cnt.trans hcA
        refine JJ_aload_n dX12_stroke_34 rfl rfl ?_
        refine JJ_geti (v := nI cn) (cis := [12]) (k := 15) fa_X12_79 (by decide) hR.1 rfl (hN.1 15 (by decide)) hcM dX12_stroke_35 ?_
        refine JJ_bipush (v := 6) dX12_stroke_38 rfl ?_
        refine JJ_icmp_ne (tgt := 46) dX12_stroke_40 (by decide) (fun c13 => ?_) (fun c13 => ?_)
        · skip
          have hc5 : cn < 6 := by have := (show cn ≠ 6 from fun e => c13 (by rw [e]; rfl)); omega
          refine JJ_aload_n dX12_stroke_46 rfl rfl ?_
          refine JJ_getr (q := o + 8) (cis := [12]) (k := 12) fa_X12_35 (by decide) hR.1 rfl (hR.2 (12, 8, 20, 6) (by decide)).1 dX12_stroke_47 ?_
          refine JJ_aload_n dX12_stroke_50 rfl rfl ?_
          refine JJ_geti (v := nI cn) (cis := [12]) (k := 15) fa_X12_79 (by decide) hR.1 rfl (hN.1 15 (by decide)) hcM dX12_stroke_51 ?_
          refine JJ_iload_n dX12_stroke_54 rfl rfl ?_
          refine JJ_iastX (hR.2 (12, 8, 20, 6) (by decide)).2 (IX_nI (by omega) (by omega)) dX12_stroke_55 (fun M14 hM15 => ?_)
          refine JJ_aload_n dX12_stroke_56 rfl rfl ?_
          refine JJ_getr (q := o + 9) (cis := [12]) (k := 13) fa_X12_38 (by decide) hR.1 rfl (hR.2 (13, 9, 20, 6) (by decide)).1 dX12_stroke_57 ?_
          refine JJ_aload_n dX12_stroke_60 rfl rfl ?_
          refine JJ_geti (v := nI cn) (cis := [12]) (k := 15) fa_X12_79 (by decide) hR.1 rfl (hN.1 15 (by decide)) (rd_n hM15 (by omega) hcM) dX12_stroke_61 ?_
          refine JJ_iload_n dX12_stroke_64 rfl rfl ?_
          refine JJ_iastX (hR.2 (13, 9, 20, 6) (by decide)).2 (IX_nI (by omega) (by omega)) dX12_stroke_65 (fun M16 hM17 => ?_)
          refine JJ_aload_n dX12_stroke_66 rfl rfl ?_
          refine JJ_getr (q := o + 10) (cis := [12]) (k := 14) fa_X12_41 (by decide) hR.1 rfl (hR.2 (14, 10, 20, 6) (by decide)).1 dX12_stroke_67 ?_
          refine JJ_aload_n dX12_stroke_70 rfl rfl ?_
          refine JJ_geti (v := nI cn) (cis := [12]) (k := 15) fa_X12_79 (by decide) hR.1 rfl (hN.1 15 (by decide)) (rd_n hM17 (by omega) (rd_n hM15 (by omega) hcM)) dX12_stroke_71 ?_
          refine JJ_iload_n dX12_stroke_74 rfl rfl ?_
          refine JJ_iastX (hR.2 (14, 10, 20, 6) (by decide)).2 (IX_nI (by omega) (by omega)) dX12_stroke_75 (fun M18 hM19 => ?_)
          refine JJ_aload_n dX12_stroke_76 rfl rfl ?_
          refine JJ_dup dX12_stroke_77 rfl ?_
          refine JJ_geti (v := nI cn) (cis := [12]) (k := 15) fa_X12_79 (by decide) hR.1 rfl (hN.1 15 (by decide)) (rd_n hM19 (by omega) (rd_n hM17 (by omega) (rd_n hM15 (by omega) hcM))) dX12_stroke_78 ?_
          refine JJ_iconst (v := 1) dX12_stroke_81 rfl ?_
          refine JJ_iadd dX12_stroke_82 ?_
          refine JJ_eqi (x2 := nI (cn + 1)) (nI_add (cn) (1)) ?_
          refine JJ_puti (cis := [12]) (k := 15) fa_X12_79 (by decide) hR.1 rfl (fun r hr => by cases hr; exact ⟨rfl, by decide +kernel⟩) dX12_stroke_83 (fun M20 hM21 => ?_)
          refine JJ_aload_n dX12_stroke_86 rfl rfl ?_
          refine JJ_geti (v := nI (cn + 1)) (cis := [12]) (k := 15) fa_X12_79 (by decide) hR.1 rfl (hN.1 15 (by decide)) (rd_s hM21) dX12_stroke_87 ?_
          refine JJ_iconst (v := 1) dX12_stroke_90 rfl ?_
          refine JJ_isub dX12_stroke_91 ?_
          refine JJ_eqi (x2 := nI cn) (pk_sub (a := cn + 1) (b := 1) (by omega)) ?_
          refine JJ_iret dX12_stroke_92 rfl ?_
          have e0 : zr_stroke A kind number aim = (nI cn, zUp (zUp (zUp (zUp A 5 cn kind) 6 cn number) 7 cn aim) 8 0 (nI (cn + 1))) := by rw [← hcZ]; exact (if_neg (fun z => z ⟨b2_n.mp c4, b2_n.mp c8, b2_n.mp c12⟩)).trans (if_neg (by omega))
          exact zI_r (by rw [e0]) (by rw [e0, hM21, hM19, hM17, hM15]; exact up_abs (up_abs (up_abs (up_abs hA (LC_5 hc5) (by decide)) (LC_6 hc5) (by decide)) (LC_7 hc5) (by decide)) LC_8 (by decide)) (fun b k z => rd_n hM21 (fun e => z (by unfold RO; omega)) (rd_n hM19 (fun e => z (by unfold RO; omega)) (rd_n hM17 (fun e => z (by unfold RO; omega)) (rd_n hM15 (fun e => z (by unfold RO; omega)) (rfl)))))
        · skip
          refine JJ_bipush (v := (-4)) dX12_stroke_43 rfl ?_
          refine JJ_iret dX12_stroke_45 rfl ?_
          have e0 : zr_stroke A kind number aim = (-4, A) := (if_neg (fun z => z ⟨b2_n.mp c4, b2_n.mp c8, b2_n.mp c12⟩)).trans (if_pos (by rw [hcZ]; exact nI_inj (b := 6) (by omega) (by omega) c13))
          exact zI_r (by rw [e0]) (by rw [e0]; exact hA) (fun _ _ _ => rfl)
      · skip
        refine JJ_bipush (v := (-2)) dX12_stroke_31 rfl ?_
        refine JJ_iret dX12_stroke_33 rfl ?_
        have e0 : zr_stroke A kind number aim = (-2, A) := if_pos (fun z => b2_0.mp c12 z.2.2)
        exact zI_r (by rw [e0]) (by rw [e0]; exact hA) (fun _ _ _ => rfl)
end REF12
