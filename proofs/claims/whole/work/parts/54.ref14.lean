section REF14
variable {G : Gx} {sc : Nat → Nat → Prop} {n : Nat} {S : Nat → Nat × Nat} {M : Nat → Nat → Int32} {L : Nat → Nat → Int64} {P : Nat → Nat → Option Nat} {o : Nat}

set_option maxHeartbeats 4000000 in
set_option maxRecDepth 100000 in
theorem kr_play {s : Int32} {A : Abs} (hA : rABS o M A) (hg2 : RNG2 A) (hR : RWF o S P) (hN : HSR o sc) : KK G sc yX12_play cX12_play 3 (some .int) 64 0 0 [.ref o, .int s] (n, S, M, L, P) (zI o n S M P (zr_play A s).1 (zr_play A s).2) := by
  have hg : RNG A := hg2.1
  refine KK_of2 [(0, .ref o), (1, .int s)] (by decide +kernel) (Nat.le_of_ble_eq_true rfl) rfl ?_
  refine JJ_aload_n dX12_play_0 rfl rfl ?_
  refine JJ_iload_n dX12_play_1 rfl rfl ?_
  refine JJ_callV (rest := []) hR.1 rfl rfl (kr_rallyBad (A := A) (s := s) hA hg hR hN) (by decide) mi_X12_rallyBad lk_X12_312 rfl (Nat.le_of_ble_eq_true rfl) rfl rfl dX12_play_2 ?_
  intro v1 μ2 h3
  obtain ⟨rfl, rfl⟩ := h3
  refine JJ_r1 ?_
  refine JJ_istore_n (lv' := [(2, .int (z_rb A s)), (0, .ref o), (1, .int s)]) dX12_play_5 rfl (by decide) rfl ?_
  refine JJ_iload_n dX12_play_6 rfl rfl ?_
  refine JJ_if_eq (tgt := 12) dX12_play_7 (by decide) (fun c4 => ?_) (fun c4 => ?_)
  · skip
    have hrb := c4
    obtain ⟨k, N, rfl, hr⟩ := rb_rly (hA.shi hg) ((hA.rb hg _).trans hrb)
    have hk4 := hr.1
    refine JJ_aload_n dX12_play_12 rfl rfl ?_
    refine JJ_iload_n dX12_play_13 rfl rfl ?_
    refine JJ_callV (rest := []) hR.1 rfl rfl (kr_rallies (E := zE A) (s := k) (N := N) hr (hA.cvr hg) hR hN (hA.rtx hg)) (by decide) mi_X12_rallies lk_X12_318 rfl (Nat.le_of_ble_eq_true rfl) rfl rfl dX12_play_14 ?_
    intro v5 μ6 h7
    obtain ⟨rfl, Mb, Lb, rfl, hin⟩ := h7
    refine JJ_r0 ?_
    obtain ⟨ist, i34, i35, i36, i37, ibl⟩ := ral_A hA hr (fun _ _ => rfl) rfl rfl hin
    refine JJ_aload_n dX12_play_17 rfl rfl ?_
    refine JJ_geti (v := sr_wins (z_fin A k)) (cis := [12]) (k := 34) fa_X12_286 (by decide) hR.1 rfl (hN.1 34 (by decide)) i34 dX12_play_18 ?_
    refine JJ_iret dX12_play_21 rfl ?_
    have e0 : zr_play A (nI k) = (sr_wins (z_fin A k), zPut A (z_st A k (z_fin A k).1)) := (if_pos hrb).trans (by rw [show i2n (nI k) = k from nI_clamp (by omega)])
    exact zI_r (by rw [e0]) (by rw [e0]; exact put_abs hA ist hin.1) (fun b k z => hin.1 _ _ (fun q => z (by unfold RD at q; unfold RO; omega)))
  · skip
    refine JJ_iload_n dX12_play_10 rfl rfl ?_
    refine JJ_iret dX12_play_11 rfl ?_
    have e0 : zr_play A s = (z_rb A s, A) := if_neg c4
    exact zI_r (by rw [e0]) (by rw [e0]; exact hA) (fun _ _ _ => rfl)
set_option maxHeartbeats 4000000 in
set_option maxRecDepth 100000 in
theorem kr_cell {s i v : Int32} {A : Abs} (hA : rABS o M A) (hg2 : RNG2 A) (hR : RWF o S P) (hN : HSR o sc) : KK G sc yX12_cell cX12_cell 4 (some .int) 3 0 0 [.ref o, .int s, .int i, .int v] (n, S, M, L, P) (zI o n S M P (zr_cell A s i v).1 (zr_cell A s i v).2) := by
  have hg : RNG A := hg2.1
  refine KK_of2 [(0, .ref o), (1, .int s), (2, .int i), (3, .int v)] (by decide +kernel) (Nat.le_of_ble_eq_true rfl) rfl ?_
  refine JJ_iload_n dX12_cell_0 rfl rfl ?_
  refine JJ_callS (rest := []) (kr_isSheet (v := s)) (by decide) mi_X12_isSheet lk_X12_309 rfl (Nat.le_of_ble_eq_true rfl) rfl rfl dX12_cell_1 ?_
  intro v1 μ2 h3
  obtain ⟨rfl, rfl⟩ := h3
  refine JJ_r1 ?_
  refine JJ_if_ne (tgt := 10) dX12_cell_4 (by decide) (fun c4 => ?_) (fun c4 => ?_)
  · skip
    obtain ⟨k, hk3, rfl⟩ := n_of (m := 3) (by decide) (b2_n.mp c4)
    have hk4 : k < 4 := by omega
    have e0 : zr_cell A (nI k) i v = if A.1 16 k = 0 then (-11, A) else if ¬ (0 ≤ i.toInt ∧ i.toInt ≤ (A.1 18 k - 1).toInt) then (-12, A) else (1, zUp A (20 + k) (i2n i) (s_narrow (A.1 17 k) v)) := by
      unfold zr_cell
      rw [if_neg (fun z => z (b2_n.mp c4)), show i2n (nI k) = k from nI_clamp (by omega)]
    refine JJ_aload_n dX12_cell_10 rfl rfl ?_
    refine JJ_getr (q := o + 15) (cis := [12]) (k := 47) fa_X12_59 (by decide) hR.1 rfl (hR.2 (47, 15, 21, 4) (by decide)).1 dX12_cell_11 ?_
    refine JJ_iload_n dX12_cell_14 rfl rfl ?_
    refine JJ_zaldX (v := A.1 16 k) (hR.2 (47, 15, 21, 4) (by decide)).2 (IX_nI (by omega) (by omega)) (hN.2.1 15 _ (by decide) (by decide)) (hA.th hk4) dX12_cell_15 ?_
    refine JJ_if_ne (tgt := 22) dX12_cell_16 (by decide) (fun c5 => ?_) (fun c5 => ?_)
    · skip
      refine JJ_iload_n dX12_cell_22 rfl rfl ?_
      refine JJ_i2l dX12_cell_23 ?_
      refine JJ_lconst (v := 0) dX12_cell_24 rfl ?_
      refine JJ_aload_n dX12_cell_25 rfl rfl ?_
      refine JJ_getr (q := o + 17) (cis := [12]) (k := 49) fa_X12_66 (by decide) hR.1 rfl (hR.2 (49, 17, 20, 4) (by decide)).1 dX12_cell_26 ?_
      refine JJ_iload_n dX12_cell_29 rfl rfl ?_
      refine JJ_ialdX (v := A.1 18 k) (hR.2 (49, 17, 20, 4) (by decide)).2 (IX_nI (by omega) (by omega)) (hN.2.1 17 _ (by decide) (by decide)) (hA.sz hk4) dX12_cell_30 ?_
      refine JJ_iconst (v := 1) dX12_cell_31 rfl ?_
      refine JJ_isub dX12_cell_32 ?_
      refine JJ_i2l dX12_cell_33 ?_
      refine JJ_callS (rest := []) (kr_in32 (v := i) (lo := 0) (hi := ((A.1 18 k) - 1).toInt64) (a := 0) (b := (((A.1 18 k) - 1)).toInt) rfl (i_wide _)) (by decide) mi_X12_in lk_X12_82 rfl (Nat.le_of_ble_eq_true rfl) rfl rfl dX12_cell_34 ?_
      intro v6 μ7 h8
      obtain ⟨rfl, rfl⟩ := h8
      refine JJ_r1 ?_
      refine JJ_if_ne (tgt := 43) dX12_cell_37 (by decide) (fun c9 => ?_) (fun c9 => ?_)
      · skip
        obtain ⟨-, N, hN40, eN⟩ := (hg.2.2.2.2.1 k hk4).resolve_left c5
        have hi := b2_n.mp c9
        rw [if_neg c5, if_neg (fun z => z hi)] at e0
        rw [eN, cm1 (by omega)] at hi
        obtain ⟨j, hj, rfl⟩ : ∃ j, j < N ∧ i = nI j := ⟨i.toInt.toNat, by omega, by rw [i_eq, nI_toInt (by omega)]; omega⟩
        rw [show i2n (nI j) = j from nI_clamp (by omega)] at e0
        refine JJ_aload_n dX12_cell_43 rfl rfl ?_
        refine JJ_getr (q := o + 18) (cis := [12]) (k := 50) fa_X12_69 (by decide) hR.1 rfl (hR.2 (50, 18, 20, 160) (by decide)).1 dX12_cell_44 ?_
        refine JJ_bipush (v := 40) dX12_cell_47 rfl ?_
        refine JJ_iload_n dX12_cell_49 rfl rfl ?_
        refine JJ_imul dX12_cell_50 ?_
        refine JJ_eqi (x2 := nI (40 * k)) (pk_mul (40) (k)) ?_
        refine JJ_iload_n dX12_cell_51 rfl rfl ?_
        refine JJ_iadd dX12_cell_52 ?_
        refine JJ_eqi (x2 := nI (40 * k + j)) (nI_add (40 * k) (j)) ?_
        refine JJ_aload_n dX12_cell_53 rfl rfl ?_
        refine JJ_getr (q := o + 16) (cis := [12]) (k := 48) fa_X12_63 (by decide) hR.1 rfl (hR.2 (48, 16, 20, 4) (by decide)).1 dX12_cell_54 ?_
        refine JJ_iload_n dX12_cell_57 rfl rfl ?_
        refine JJ_ialdX (v := A.1 17 k) (hR.2 (48, 16, 20, 4) (by decide)).2 (IX_nI (by omega) (by omega)) (hN.2.1 16 _ (by decide) (by decide)) (hA.so hk4) dX12_cell_58 ?_
        refine JJ_if_ne (tgt := 67) dX12_cell_59 (by decide) (fun c10 => ?_) (fun c10 => ?_)
        · skip
          refine JJ_aload_n dX12_cell_67 rfl rfl ?_
          refine JJ_getr (q := o + 16) (cis := [12]) (k := 48) fa_X12_63 (by decide) hR.1 rfl (hR.2 (48, 16, 20, 4) (by decide)).1 dX12_cell_68 ?_
          refine JJ_iload_n dX12_cell_71 rfl rfl ?_
          refine JJ_ialdX (v := A.1 17 k) (hR.2 (48, 16, 20, 4) (by decide)).2 (IX_nI (by omega) (by omega)) (hN.2.1 16 _ (by decide) (by decide)) (hA.so hk4) dX12_cell_72 ?_
          refine JJ_iconst (v := 1) dX12_cell_73 rfl ?_
          refine JJ_icmp_ne (tgt := 82) dX12_cell_74 (by decide) (fun c11 => ?_) (fun c11 => ?_)
          · skip
            refine JJ_iload_n dX12_cell_82 rfl rfl ?_
            refine JJ_iastX (hR.2 (50, 18, 20, 160) (by decide)).2 (IX_nI (by omega) (by omega)) dX12_cell_83 (fun M12 hM13 => ?_)
            refine JJ_iconst (v := 1) dX12_cell_84 rfl ?_
            refine JJ_iret dX12_cell_85 rfl ?_
            have en : s_narrow (A.1 17 k) v = v := (if_neg c10).trans (if_neg c11)
            rw [en] at e0
            exact zI_r (by rw [e0]) (by rw [e0, hM13]; exact up_abs hA (LC_20 hk4 (by omega)) (by omega)) (fun b k z => rd_n hM13 (fun e => z (by unfold RO; omega)) (rfl))
          · skip
            refine JJ_iload_n dX12_cell_77 rfl rfl ?_
            refine JJ_i2s dX12_cell_78 ?_
            refine JJ_goto (tgt := 83) dX12_cell_79 (by decide) ?_
            refine JJ_iastX (hR.2 (50, 18, 20, 160) (by decide)).2 (IX_nI (by omega) (by omega)) dX12_cell_83 (fun M14 hM15 => ?_)
            refine JJ_iconst (v := 1) dX12_cell_84 rfl ?_
            refine JJ_iret dX12_cell_85 rfl ?_
            have en : s_narrow (A.1 17 k) v = v.toInt16.toInt32 := (if_neg c10).trans (if_pos c11)
            rw [en] at e0
            exact zI_r (by rw [e0]) (by rw [e0, hM15]; exact up_abs hA (LC_20 hk4 (by omega)) (by omega)) (fun b k z => rd_n hM15 (fun e => z (by unfold RO; omega)) (rfl))
        · skip
          refine JJ_iload_n dX12_cell_62 rfl rfl ?_
          refine JJ_i2b dX12_cell_63 ?_
          refine JJ_goto (tgt := 83) dX12_cell_64 (by decide) ?_
          refine JJ_iastX (hR.2 (50, 18, 20, 160) (by decide)).2 (IX_nI (by omega) (by omega)) dX12_cell_83 (fun M16 hM17 => ?_)
          refine JJ_iconst (v := 1) dX12_cell_84 rfl ?_
          refine JJ_iret dX12_cell_85 rfl ?_
          have en : s_narrow (A.1 17 k) v = v.toInt8.toInt32 := if_pos c10
          rw [en] at e0
          exact zI_r (by rw [e0]) (by rw [e0, hM17]; exact up_abs hA (LC_20 hk4 (by omega)) (by omega)) (fun b k z => rd_n hM17 (fun e => z (by unfold RO; omega)) (rfl))
      · skip
        refine JJ_bipush (v := (-12)) dX12_cell_40 rfl ?_
        refine JJ_iret dX12_cell_42 rfl ?_
        rw [if_neg c5, if_pos (b2_0.mp c9)] at e0
        exact zI_r (by rw [e0]) (by rw [e0]; exact hA) (fun _ _ _ => rfl)
    · skip
      refine JJ_bipush (v := (-11)) dX12_cell_19 rfl ?_
      refine JJ_iret dX12_cell_21 rfl ?_
      rw [if_pos c5] at e0
      exact zI_r (by rw [e0]) (by rw [e0]; exact hA) (fun _ _ _ => rfl)
  · skip
    refine JJ_bipush (v := (-2)) dX12_cell_7 rfl ?_
    refine JJ_iret dX12_cell_9 rfl ?_
    have e0 : zr_cell A s i v = (-2, A) := if_pos (b2_0.mp c4)
    exact zI_r (by rw [e0]) (by rw [e0]; exact hA) (fun _ _ _ => rfl)
set_option maxHeartbeats 4000000 in
set_option maxRecDepth 100000 in
theorem kr_image {A : Abs} (hA : rABS o M A) (hg2 : RNG2 A) (hR : RWF o S P) (hN : HSR o sc) : KK G sc yX12_image cX12_image 2 (some .int) 3 0 0 [.ref o] (n, S, M, L, P) (zI o n S M P (A.1 8 0) (zImg A)) := by
  have hg : RNG A := hg2.1
  refine KK_of2 [(0, .ref o)] (by decide +kernel) (Nat.le_of_ble_eq_true rfl) rfl ?_
  refine JJ_iconst (v := 0) dX12_image_0 rfl ?_
  refine JJ_istore_n (lv' := [(1, .int 0), (0, .ref o)]) dX12_image_1 rfl (by decide) rfl ?_
  refine JJ_iload_n dX12_image_2 rfl rfl ?_
  refine JJ_iconst (v := 2) dX12_image_3 rfl ?_
  refine JJ_icmp_ge (tgt := 68) dX12_image_4 (by decide) (fun c1 => absurd c1 (by decide)) (fun _ => ?_)
  refine JJ_aload_n dX12_image_7 rfl rfl ?_
  refine JJ_getr (q := o + 13) (cis := [12]) (k := 42) fa_X12_50 (by decide) hR.1 rfl (hR.2 (42, 13, 20, 8) (by decide)).1 dX12_image_8 ?_
  refine JJ_iload_n dX12_image_11 rfl rfl ?_
  refine JJ_aload_n dX12_image_12 rfl rfl ?_
  refine JJ_getr (q := o + 4) (cis := [12]) (k := 7) fa_X12_23 (by decide) hR.1 rfl (hR.2 (7, 4, 20, 2) (by decide)).1 dX12_image_13 ?_
  refine JJ_iload_n dX12_image_16 rfl rfl ?_
  refine JJ_ialdX (v := A.1 0 0) (hR.2 (7, 4, 20, 2) (by decide)).2 (IX_of (j := 0) rfl (by decide) (by decide)) (hN.2.1 4 _ (by decide) (by decide)) (hA.loc _ _ _ _ (LC_0 (by decide))) dX12_image_17 ?_
  refine JJ_iastX (hR.2 (42, 13, 20, 8) (by decide)).2 (IX_of (j := 0) rfl (by decide) (by decide)) dX12_image_18 (fun M2 hM3 => ?_)
  refine JJ_aload_n dX12_image_19 rfl rfl ?_
  refine JJ_getr (q := o + 13) (cis := [12]) (k := 42) fa_X12_50 (by decide) hR.1 rfl (hR.2 (42, 13, 20, 8) (by decide)).1 dX12_image_20 ?_
  refine JJ_iconst (v := 2) dX12_image_23 rfl ?_
  refine JJ_iload_n dX12_image_24 rfl rfl ?_
  refine JJ_iadd dX12_image_25 ?_
  refine JJ_eqi (x2 := 2) (by decide) ?_
  refine JJ_aload_n dX12_image_26 rfl rfl ?_
  refine JJ_getr (q := o + 5) (cis := [12]) (k := 8) fa_X12_26 (by decide) hR.1 rfl (hR.2 (8, 5, 20, 2) (by decide)).1 dX12_image_27 ?_
  refine JJ_iload_n dX12_image_30 rfl rfl ?_
  refine JJ_ialdX (v := A.1 1 0) (hR.2 (8, 5, 20, 2) (by decide)).2 (IX_of (j := 0) rfl (by decide) (by decide)) (hN.2.1 5 _ (by decide) (by decide)) (rd_n hM3 (by omega) (hA.loc _ _ _ _ (LC_1 (by decide)))) dX12_image_31 ?_
  refine JJ_iastX (hR.2 (42, 13, 20, 8) (by decide)).2 (IX_of (j := 2) rfl (by decide) (by decide)) dX12_image_32 (fun M4 hM5 => ?_)
  refine JJ_aload_n dX12_image_33 rfl rfl ?_
  refine JJ_getr (q := o + 13) (cis := [12]) (k := 42) fa_X12_50 (by decide) hR.1 rfl (hR.2 (42, 13, 20, 8) (by decide)).1 dX12_image_34 ?_
  refine JJ_iconst (v := 4) dX12_image_37 rfl ?_
  refine JJ_iload_n dX12_image_38 rfl rfl ?_
  refine JJ_iadd dX12_image_39 ?_
  refine JJ_eqi (x2 := 4) (by decide) ?_
  refine JJ_aload_n dX12_image_40 rfl rfl ?_
  refine JJ_getr (q := o + 6) (cis := [12]) (k := 9) fa_X12_29 (by decide) hR.1 rfl (hR.2 (9, 6, 20, 2) (by decide)).1 dX12_image_41 ?_
  refine JJ_iload_n dX12_image_44 rfl rfl ?_
  refine JJ_ialdX (v := A.1 2 0) (hR.2 (9, 6, 20, 2) (by decide)).2 (IX_of (j := 0) rfl (by decide) (by decide)) (hN.2.1 6 _ (by decide) (by decide)) (rd_n hM5 (by omega) (rd_n hM3 (by omega) (hA.loc _ _ _ _ (LC_2 (by decide))))) dX12_image_45 ?_
  refine JJ_iastX (hR.2 (42, 13, 20, 8) (by decide)).2 (IX_of (j := 4) rfl (by decide) (by decide)) dX12_image_46 (fun M6 hM7 => ?_)
  refine JJ_aload_n dX12_image_47 rfl rfl ?_
  refine JJ_getr (q := o + 13) (cis := [12]) (k := 42) fa_X12_50 (by decide) hR.1 rfl (hR.2 (42, 13, 20, 8) (by decide)).1 dX12_image_48 ?_
  refine JJ_bipush (v := 6) dX12_image_51 rfl ?_
  refine JJ_iload_n dX12_image_53 rfl rfl ?_
  refine JJ_iadd dX12_image_54 ?_
  refine JJ_eqi (x2 := 6) (by decide) ?_
  refine JJ_aload_n dX12_image_55 rfl rfl ?_
  refine JJ_getr (q := o + 7) (cis := [12]) (k := 10) fa_X12_32 (by decide) hR.1 rfl (hR.2 (10, 7, 20, 2) (by decide)).1 dX12_image_56 ?_
  refine JJ_iload_n dX12_image_59 rfl rfl ?_
  refine JJ_ialdX (v := A.1 3 0) (hR.2 (10, 7, 20, 2) (by decide)).2 (IX_of (j := 0) rfl (by decide) (by decide)) (hN.2.1 7 _ (by decide) (by decide)) (rd_n hM7 (by omega) (rd_n hM5 (by omega) (rd_n hM3 (by omega) (hA.loc _ _ _ _ (LC_3 (by decide)))))) dX12_image_60 ?_
  refine JJ_iastX (hR.2 (42, 13, 20, 8) (by decide)).2 (IX_of (j := 6) rfl (by decide) (by decide)) dX12_image_61 (fun M8 hM9 => ?_)
  refine JJ_iinc (v := 1) (lv' := [(1, .int 1), (0, .ref o)]) dX12_image_62 rfl (by decide) (by decide) rfl ?_
  refine JJ_goto (tgt := 2) dX12_image_65 (by decide) ?_
  refine JJ_iload_n dX12_image_2 rfl rfl ?_
  refine JJ_iconst (v := 2) dX12_image_3 rfl ?_
  refine JJ_icmp_ge (tgt := 68) dX12_image_4 (by decide) (fun c10 => absurd c10 (by decide)) (fun _ => ?_)
  refine JJ_aload_n dX12_image_7 rfl rfl ?_
  refine JJ_getr (q := o + 13) (cis := [12]) (k := 42) fa_X12_50 (by decide) hR.1 rfl (hR.2 (42, 13, 20, 8) (by decide)).1 dX12_image_8 ?_
  refine JJ_iload_n dX12_image_11 rfl rfl ?_
  refine JJ_aload_n dX12_image_12 rfl rfl ?_
  refine JJ_getr (q := o + 4) (cis := [12]) (k := 7) fa_X12_23 (by decide) hR.1 rfl (hR.2 (7, 4, 20, 2) (by decide)).1 dX12_image_13 ?_
  refine JJ_iload_n dX12_image_16 rfl rfl ?_
  refine JJ_ialdX (v := A.1 0 1) (hR.2 (7, 4, 20, 2) (by decide)).2 (IX_of (j := 1) rfl (by decide) (by decide)) (hN.2.1 4 _ (by decide) (by decide)) (rd_n hM9 (by omega) (rd_n hM7 (by omega) (rd_n hM5 (by omega) (rd_n hM3 (by omega) (hA.loc _ _ _ _ (LC_0 (by decide))))))) dX12_image_17 ?_
  refine JJ_iastX (hR.2 (42, 13, 20, 8) (by decide)).2 (IX_of (j := 1) rfl (by decide) (by decide)) dX12_image_18 (fun M11 hM12 => ?_)
  refine JJ_aload_n dX12_image_19 rfl rfl ?_
  refine JJ_getr (q := o + 13) (cis := [12]) (k := 42) fa_X12_50 (by decide) hR.1 rfl (hR.2 (42, 13, 20, 8) (by decide)).1 dX12_image_20 ?_
  refine JJ_iconst (v := 2) dX12_image_23 rfl ?_
  refine JJ_iload_n dX12_image_24 rfl rfl ?_
  refine JJ_iadd dX12_image_25 ?_
  refine JJ_eqi (x2 := 3) (by decide) ?_
  refine JJ_aload_n dX12_image_26 rfl rfl ?_
  refine JJ_getr (q := o + 5) (cis := [12]) (k := 8) fa_X12_26 (by decide) hR.1 rfl (hR.2 (8, 5, 20, 2) (by decide)).1 dX12_image_27 ?_
  refine JJ_iload_n dX12_image_30 rfl rfl ?_
  refine JJ_ialdX (v := A.1 1 1) (hR.2 (8, 5, 20, 2) (by decide)).2 (IX_of (j := 1) rfl (by decide) (by decide)) (hN.2.1 5 _ (by decide) (by decide)) (rd_n hM12 (by omega) (rd_n hM9 (by omega) (rd_n hM7 (by omega) (rd_n hM5 (by omega) (rd_n hM3 (by omega) (hA.loc _ _ _ _ (LC_1 (by decide)))))))) dX12_image_31 ?_
  refine JJ_iastX (hR.2 (42, 13, 20, 8) (by decide)).2 (IX_of (j := 3) rfl (by decide) (by decide)) dX12_image_32 (fun M13 hM14 => ?_)
  refine JJ_aload_n dX12_image_33 rfl rfl ?_
  refine JJ_getr (q := o + 13) (cis := [12]) (k := 42) fa_X12_50 (by decide) hR.1 rfl (hR.2 (42, 13, 20, 8) (by decide)).1 dX12_image_34 ?_
  refine JJ_iconst (v := 4) dX12_image_37 rfl ?_
  refine JJ_iload_n dX12_image_38 rfl rfl ?_
  refine JJ_iadd dX12_image_39 ?_
  refine JJ_eqi (x2 := 5) (by decide) ?_
  refine JJ_aload_n dX12_image_40 rfl rfl ?_
  refine JJ_getr (q := o + 6) (cis := [12]) (k := 9) fa_X12_29 (by decide) hR.1 rfl (hR.2 (9, 6, 20, 2) (by decide)).1 dX12_image_41 ?_
  refine JJ_iload_n dX12_image_44 rfl rfl ?_
  refine JJ_ialdX (v := A.1 2 1) (hR.2 (9, 6, 20, 2) (by decide)).2 (IX_of (j := 1) rfl (by decide) (by decide)) (hN.2.1 6 _ (by decide) (by decide)) (rd_n hM14 (by omega) (rd_n hM12 (by omega) (rd_n hM9 (by omega) (rd_n hM7 (by omega) (rd_n hM5 (by omega) (rd_n hM3 (by omega) (hA.loc _ _ _ _ (LC_2 (by decide))))))))) dX12_image_45 ?_
  refine JJ_iastX (hR.2 (42, 13, 20, 8) (by decide)).2 (IX_of (j := 5) rfl (by decide) (by decide)) dX12_image_46 (fun M15 hM16 => ?_)
  refine JJ_aload_n dX12_image_47 rfl rfl ?_
  refine JJ_getr (q := o + 13) (cis := [12]) (k := 42) fa_X12_50 (by decide) hR.1 rfl (hR.2 (42, 13, 20, 8) (by decide)).1 dX12_image_48 ?_
  refine JJ_bipush (v := 6) dX12_image_51 rfl ?_
  refine JJ_iload_n dX12_image_53 rfl rfl ?_
  refine JJ_iadd dX12_image_54 ?_
  refine JJ_eqi (x2 := 7) (by decide) ?_
  refine JJ_aload_n dX12_image_55 rfl rfl ?_
  refine JJ_getr (q := o + 7) (cis := [12]) (k := 10) fa_X12_32 (by decide) hR.1 rfl (hR.2 (10, 7, 20, 2) (by decide)).1 dX12_image_56 ?_
  refine JJ_iload_n dX12_image_59 rfl rfl ?_
  refine JJ_ialdX (v := A.1 3 1) (hR.2 (10, 7, 20, 2) (by decide)).2 (IX_of (j := 1) rfl (by decide) (by decide)) (hN.2.1 7 _ (by decide) (by decide)) (rd_n hM16 (by omega) (rd_n hM14 (by omega) (rd_n hM12 (by omega) (rd_n hM9 (by omega) (rd_n hM7 (by omega) (rd_n hM5 (by omega) (rd_n hM3 (by omega) (hA.loc _ _ _ _ (LC_3 (by decide)))))))))) dX12_image_60 ?_
  refine JJ_iastX (hR.2 (42, 13, 20, 8) (by decide)).2 (IX_of (j := 7) rfl (by decide) (by decide)) dX12_image_61 (fun M17 hM18 => ?_)
  refine JJ_iinc (v := 2) (lv' := [(1, .int 2), (0, .ref o)]) dX12_image_62 rfl (by decide) (by decide) rfl ?_
  refine JJ_goto (tgt := 2) dX12_image_65 (by decide) ?_
  refine JJ_iload_n dX12_image_2 rfl rfl ?_
  refine JJ_iconst (v := 2) dX12_image_3 rfl ?_
  refine JJ_icmp_ge (tgt := 68) dX12_image_4 (by decide) (fun _ => ?_) (fun c19 => absurd (by decide) c19)
  refine JJ_iconst (v := 0) dX12_image_68 rfl ?_
  refine JJ_istore_n (lv' := [(1, .int 0), (0, .ref o)]) dX12_image_69 rfl (by decide) rfl ?_
  refine JJ_iload_n dX12_image_70 rfl rfl ?_
  refine JJ_bipush (v := 6) dX12_image_71 rfl ?_
  refine JJ_icmp_ge (tgt := 109) dX12_image_73 (by decide) (fun c20 => absurd c20 (by decide)) (fun _ => ?_)
  refine JJ_aload_n dX12_image_76 rfl rfl ?_
  refine JJ_getr (q := o + 14) (cis := [12]) (k := 43) fa_X12_53 (by decide) hR.1 rfl (hR.2 (43, 14, 20, 12) (by decide)).1 dX12_image_77 ?_
  refine JJ_iload_n dX12_image_80 rfl rfl ?_
  refine JJ_aload_n dX12_image_81 rfl rfl ?_
  refine JJ_getr (q := o + 9) (cis := [12]) (k := 13) fa_X12_38 (by decide) hR.1 rfl (hR.2 (13, 9, 20, 6) (by decide)).1 dX12_image_82 ?_
  refine JJ_iload_n dX12_image_85 rfl rfl ?_
  refine JJ_ialdX (v := A.1 6 0) (hR.2 (13, 9, 20, 6) (by decide)).2 (IX_of (j := 0) rfl (by decide) (by decide)) (hN.2.1 9 _ (by decide) (by decide)) (rd_n hM18 (by omega) (rd_n hM16 (by omega) (rd_n hM14 (by omega) (rd_n hM12 (by omega) (rd_n hM9 (by omega) (rd_n hM7 (by omega) (rd_n hM5 (by omega) (rd_n hM3 (by omega) (hA.loc _ _ _ _ (LC_6 (by decide))))))))))) dX12_image_86 ?_
  refine JJ_iastX (hR.2 (43, 14, 20, 12) (by decide)).2 (IX_of (j := 0) rfl (by decide) (by decide)) dX12_image_87 (fun M21 hM22 => ?_)
  refine JJ_aload_n dX12_image_88 rfl rfl ?_
  refine JJ_getr (q := o + 14) (cis := [12]) (k := 43) fa_X12_53 (by decide) hR.1 rfl (hR.2 (43, 14, 20, 12) (by decide)).1 dX12_image_89 ?_
  refine JJ_bipush (v := 6) dX12_image_92 rfl ?_
  refine JJ_iload_n dX12_image_94 rfl rfl ?_
  refine JJ_iadd dX12_image_95 ?_
  refine JJ_eqi (x2 := 6) (by decide) ?_
  refine JJ_aload_n dX12_image_96 rfl rfl ?_
  refine JJ_getr (q := o + 10) (cis := [12]) (k := 14) fa_X12_41 (by decide) hR.1 rfl (hR.2 (14, 10, 20, 6) (by decide)).1 dX12_image_97 ?_
  refine JJ_iload_n dX12_image_100 rfl rfl ?_
  refine JJ_ialdX (v := A.1 7 0) (hR.2 (14, 10, 20, 6) (by decide)).2 (IX_of (j := 0) rfl (by decide) (by decide)) (hN.2.1 10 _ (by decide) (by decide)) (rd_n hM22 (by omega) (rd_n hM18 (by omega) (rd_n hM16 (by omega) (rd_n hM14 (by omega) (rd_n hM12 (by omega) (rd_n hM9 (by omega) (rd_n hM7 (by omega) (rd_n hM5 (by omega) (rd_n hM3 (by omega) (hA.loc _ _ _ _ (LC_7 (by decide)))))))))))) dX12_image_101 ?_
  refine JJ_iastX (hR.2 (43, 14, 20, 12) (by decide)).2 (IX_of (j := 6) rfl (by decide) (by decide)) dX12_image_102 (fun M23 hM24 => ?_)
  refine JJ_iinc (v := 1) (lv' := [(1, .int 1), (0, .ref o)]) dX12_image_103 rfl (by decide) (by decide) rfl ?_
  refine JJ_goto (tgt := 70) dX12_image_106 (by decide) ?_
  refine JJ_iload_n dX12_image_70 rfl rfl ?_
  refine JJ_bipush (v := 6) dX12_image_71 rfl ?_
  refine JJ_icmp_ge (tgt := 109) dX12_image_73 (by decide) (fun c25 => absurd c25 (by decide)) (fun _ => ?_)
  refine JJ_aload_n dX12_image_76 rfl rfl ?_
  refine JJ_getr (q := o + 14) (cis := [12]) (k := 43) fa_X12_53 (by decide) hR.1 rfl (hR.2 (43, 14, 20, 12) (by decide)).1 dX12_image_77 ?_
  refine JJ_iload_n dX12_image_80 rfl rfl ?_
  refine JJ_aload_n dX12_image_81 rfl rfl ?_
  refine JJ_getr (q := o + 9) (cis := [12]) (k := 13) fa_X12_38 (by decide) hR.1 rfl (hR.2 (13, 9, 20, 6) (by decide)).1 dX12_image_82 ?_
  refine JJ_iload_n dX12_image_85 rfl rfl ?_
  refine JJ_ialdX (v := A.1 6 1) (hR.2 (13, 9, 20, 6) (by decide)).2 (IX_of (j := 1) rfl (by decide) (by decide)) (hN.2.1 9 _ (by decide) (by decide)) (rd_n hM24 (by omega) (rd_n hM22 (by omega) (rd_n hM18 (by omega) (rd_n hM16 (by omega) (rd_n hM14 (by omega) (rd_n hM12 (by omega) (rd_n hM9 (by omega) (rd_n hM7 (by omega) (rd_n hM5 (by omega) (rd_n hM3 (by omega) (hA.loc _ _ _ _ (LC_6 (by decide))))))))))))) dX12_image_86 ?_
  refine JJ_iastX (hR.2 (43, 14, 20, 12) (by decide)).2 (IX_of (j := 1) rfl (by decide) (by decide)) dX12_image_87 (fun M26 hM27 => ?_)
  refine JJ_aload_n dX12_image_88 rfl rfl ?_
  refine JJ_getr (q := o + 14) (cis := [12]) (k := 43) fa_X12_53 (by decide) hR.1 rfl (hR.2 (43, 14, 20, 12) (by decide)).1 dX12_image_89 ?_
  refine JJ_bipush (v := 6) dX12_image_92 rfl ?_
  refine JJ_iload_n dX12_image_94 rfl rfl ?_
  refine JJ_iadd dX12_image_95 ?_
  refine JJ_eqi (x2 := 7) (by decide) ?_
  refine JJ_aload_n dX12_image_96 rfl rfl ?_
  refine JJ_getr (q := o + 10) (cis := [12]) (k := 14) fa_X12_41 (by decide) hR.1 rfl (hR.2 (14, 10, 20, 6) (by decide)).1 dX12_image_97 ?_
  refine JJ_iload_n dX12_image_100 rfl rfl ?_
  refine JJ_ialdX (v := A.1 7 1) (hR.2 (14, 10, 20, 6) (by decide)).2 (IX_of (j := 1) rfl (by decide) (by decide)) (hN.2.1 10 _ (by decide) (by decide)) (rd_n hM27 (by omega) (rd_n hM24 (by omega) (rd_n hM22 (by omega) (rd_n hM18 (by omega) (rd_n hM16 (by omega) (rd_n hM14 (by omega) (rd_n hM12 (by omega) (rd_n hM9 (by omega) (rd_n hM7 (by omega) (rd_n hM5 (by omega) (rd_n hM3 (by omega) (hA.loc _ _ _ _ (LC_7 (by decide)))))))))))))) dX12_image_101 ?_
  refine JJ_iastX (hR.2 (43, 14, 20, 12) (by decide)).2 (IX_of (j := 7) rfl (by decide) (by decide)) dX12_image_102 (fun M28 hM29 => ?_)
  refine JJ_iinc (v := 2) (lv' := [(1, .int 2), (0, .ref o)]) dX12_image_103 rfl (by decide) (by decide) rfl ?_
  refine JJ_goto (tgt := 70) dX12_image_106 (by decide) ?_
  refine JJ_iload_n dX12_image_70 rfl rfl ?_
  refine JJ_bipush (v := 6) dX12_image_71 rfl ?_
  refine JJ_icmp_ge (tgt := 109) dX12_image_73 (by decide) (fun c30 => absurd c30 (by decide)) (fun _ => ?_)
  refine JJ_aload_n dX12_image_76 rfl rfl ?_
  refine JJ_getr (q := o + 14) (cis := [12]) (k := 43) fa_X12_53 (by decide) hR.1 rfl (hR.2 (43, 14, 20, 12) (by decide)).1 dX12_image_77 ?_
  refine JJ_iload_n dX12_image_80 rfl rfl ?_
  refine JJ_aload_n dX12_image_81 rfl rfl ?_
  refine JJ_getr (q := o + 9) (cis := [12]) (k := 13) fa_X12_38 (by decide) hR.1 rfl (hR.2 (13, 9, 20, 6) (by decide)).1 dX12_image_82 ?_
  refine JJ_iload_n dX12_image_85 rfl rfl ?_
  refine JJ_ialdX (v := A.1 6 2) (hR.2 (13, 9, 20, 6) (by decide)).2 (IX_of (j := 2) rfl (by decide) (by decide)) (hN.2.1 9 _ (by decide) (by decide)) (rd_n hM29 (by omega) (rd_n hM27 (by omega) (rd_n hM24 (by omega) (rd_n hM22 (by omega) (rd_n hM18 (by omega) (rd_n hM16 (by omega) (rd_n hM14 (by omega) (rd_n hM12 (by omega) (rd_n hM9 (by omega) (rd_n hM7 (by omega) (rd_n hM5 (by omega) (rd_n hM3 (by omega) (hA.loc _ _ _ _ (LC_6 (by decide))))))))))))))) dX12_image_86 ?_
  refine JJ_iastX (hR.2 (43, 14, 20, 12) (by decide)).2 (IX_of (j := 2) rfl (by decide) (by decide)) dX12_image_87 (fun M31 hM32 => ?_)
  refine JJ_aload_n dX12_image_88 rfl rfl ?_
  refine JJ_getr (q := o + 14) (cis := [12]) (k := 43) fa_X12_53 (by decide) hR.1 rfl (hR.2 (43, 14, 20, 12) (by decide)).1 dX12_image_89 ?_
  refine JJ_bipush (v := 6) dX12_image_92 rfl ?_
  refine JJ_iload_n dX12_image_94 rfl rfl ?_
  refine JJ_iadd dX12_image_95 ?_
  refine JJ_eqi (x2 := 8) (by decide) ?_
  refine JJ_aload_n dX12_image_96 rfl rfl ?_
  refine JJ_getr (q := o + 10) (cis := [12]) (k := 14) fa_X12_41 (by decide) hR.1 rfl (hR.2 (14, 10, 20, 6) (by decide)).1 dX12_image_97 ?_
  refine JJ_iload_n dX12_image_100 rfl rfl ?_
  refine JJ_ialdX (v := A.1 7 2) (hR.2 (14, 10, 20, 6) (by decide)).2 (IX_of (j := 2) rfl (by decide) (by decide)) (hN.2.1 10 _ (by decide) (by decide)) (rd_n hM32 (by omega) (rd_n hM29 (by omega) (rd_n hM27 (by omega) (rd_n hM24 (by omega) (rd_n hM22 (by omega) (rd_n hM18 (by omega) (rd_n hM16 (by omega) (rd_n hM14 (by omega) (rd_n hM12 (by omega) (rd_n hM9 (by omega) (rd_n hM7 (by omega) (rd_n hM5 (by omega) (rd_n hM3 (by omega) (hA.loc _ _ _ _ (LC_7 (by decide)))))))))))))))) dX12_image_101 ?_
  refine JJ_iastX (hR.2 (43, 14, 20, 12) (by decide)).2 (IX_of (j := 8) rfl (by decide) (by decide)) dX12_image_102 (fun M33 hM34 => ?_)
  refine JJ_iinc (v := 3) (lv' := [(1, .int 3), (0, .ref o)]) dX12_image_103 rfl (by decide) (by decide) rfl ?_
  refine JJ_goto (tgt := 70) dX12_image_106 (by decide) ?_
  refine JJ_iload_n dX12_image_70 rfl rfl ?_
  refine JJ_bipush (v := 6) dX12_image_71 rfl ?_
  refine JJ_icmp_ge (tgt := 109) dX12_image_73 (by decide) (fun c35 => absurd c35 (by decide)) (fun _ => ?_)
  refine JJ_aload_n dX12_image_76 rfl rfl ?_
  refine JJ_getr (q := o + 14) (cis := [12]) (k := 43) fa_X12_53 (by decide) hR.1 rfl (hR.2 (43, 14, 20, 12) (by decide)).1 dX12_image_77 ?_
  refine JJ_iload_n dX12_image_80 rfl rfl ?_
  refine JJ_aload_n dX12_image_81 rfl rfl ?_
  refine JJ_getr (q := o + 9) (cis := [12]) (k := 13) fa_X12_38 (by decide) hR.1 rfl (hR.2 (13, 9, 20, 6) (by decide)).1 dX12_image_82 ?_
  refine JJ_iload_n dX12_image_85 rfl rfl ?_
  refine JJ_ialdX (v := A.1 6 3) (hR.2 (13, 9, 20, 6) (by decide)).2 (IX_of (j := 3) rfl (by decide) (by decide)) (hN.2.1 9 _ (by decide) (by decide)) (rd_n hM34 (by omega) (rd_n hM32 (by omega) (rd_n hM29 (by omega) (rd_n hM27 (by omega) (rd_n hM24 (by omega) (rd_n hM22 (by omega) (rd_n hM18 (by omega) (rd_n hM16 (by omega) (rd_n hM14 (by omega) (rd_n hM12 (by omega) (rd_n hM9 (by omega) (rd_n hM7 (by omega) (rd_n hM5 (by omega) (rd_n hM3 (by omega) (hA.loc _ _ _ _ (LC_6 (by decide))))))))))))))))) dX12_image_86 ?_
  refine JJ_iastX (hR.2 (43, 14, 20, 12) (by decide)).2 (IX_of (j := 3) rfl (by decide) (by decide)) dX12_image_87 (fun M36 hM37 => ?_)
  refine JJ_aload_n dX12_image_88 rfl rfl ?_
  refine JJ_getr (q := o + 14) (cis := [12]) (k := 43) fa_X12_53 (by decide) hR.1 rfl (hR.2 (43, 14, 20, 12) (by decide)).1 dX12_image_89 ?_
  refine JJ_bipush (v := 6) dX12_image_92 rfl ?_
  refine JJ_iload_n dX12_image_94 rfl rfl ?_
  refine JJ_iadd dX12_image_95 ?_
  refine JJ_eqi (x2 := 9) (by decide) ?_
  refine JJ_aload_n dX12_image_96 rfl rfl ?_
  refine JJ_getr (q := o + 10) (cis := [12]) (k := 14) fa_X12_41 (by decide) hR.1 rfl (hR.2 (14, 10, 20, 6) (by decide)).1 dX12_image_97 ?_
  refine JJ_iload_n dX12_image_100 rfl rfl ?_
  refine JJ_ialdX (v := A.1 7 3) (hR.2 (14, 10, 20, 6) (by decide)).2 (IX_of (j := 3) rfl (by decide) (by decide)) (hN.2.1 10 _ (by decide) (by decide)) (rd_n hM37 (by omega) (rd_n hM34 (by omega) (rd_n hM32 (by omega) (rd_n hM29 (by omega) (rd_n hM27 (by omega) (rd_n hM24 (by omega) (rd_n hM22 (by omega) (rd_n hM18 (by omega) (rd_n hM16 (by omega) (rd_n hM14 (by omega) (rd_n hM12 (by omega) (rd_n hM9 (by omega) (rd_n hM7 (by omega) (rd_n hM5 (by omega) (rd_n hM3 (by omega) (hA.loc _ _ _ _ (LC_7 (by decide)))))))))))))))))) dX12_image_101 ?_
  refine JJ_iastX (hR.2 (43, 14, 20, 12) (by decide)).2 (IX_of (j := 9) rfl (by decide) (by decide)) dX12_image_102 (fun M38 hM39 => ?_)
  refine JJ_iinc (v := 4) (lv' := [(1, .int 4), (0, .ref o)]) dX12_image_103 rfl (by decide) (by decide) rfl ?_
  refine JJ_goto (tgt := 70) dX12_image_106 (by decide) ?_
  refine JJ_iload_n dX12_image_70 rfl rfl ?_
  refine JJ_bipush (v := 6) dX12_image_71 rfl ?_
  refine JJ_icmp_ge (tgt := 109) dX12_image_73 (by decide) (fun c40 => absurd c40 (by decide)) (fun _ => ?_)
  refine JJ_aload_n dX12_image_76 rfl rfl ?_
  refine JJ_getr (q := o + 14) (cis := [12]) (k := 43) fa_X12_53 (by decide) hR.1 rfl (hR.2 (43, 14, 20, 12) (by decide)).1 dX12_image_77 ?_
  refine JJ_iload_n dX12_image_80 rfl rfl ?_
  refine JJ_aload_n dX12_image_81 rfl rfl ?_
  refine JJ_getr (q := o + 9) (cis := [12]) (k := 13) fa_X12_38 (by decide) hR.1 rfl (hR.2 (13, 9, 20, 6) (by decide)).1 dX12_image_82 ?_
  refine JJ_iload_n dX12_image_85 rfl rfl ?_
  refine JJ_ialdX (v := A.1 6 4) (hR.2 (13, 9, 20, 6) (by decide)).2 (IX_of (j := 4) rfl (by decide) (by decide)) (hN.2.1 9 _ (by decide) (by decide)) (rd_n hM39 (by omega) (rd_n hM37 (by omega) (rd_n hM34 (by omega) (rd_n hM32 (by omega) (rd_n hM29 (by omega) (rd_n hM27 (by omega) (rd_n hM24 (by omega) (rd_n hM22 (by omega) (rd_n hM18 (by omega) (rd_n hM16 (by omega) (rd_n hM14 (by omega) (rd_n hM12 (by omega) (rd_n hM9 (by omega) (rd_n hM7 (by omega) (rd_n hM5 (by omega) (rd_n hM3 (by omega) (hA.loc _ _ _ _ (LC_6 (by decide))))))))))))))))))) dX12_image_86 ?_
  refine JJ_iastX (hR.2 (43, 14, 20, 12) (by decide)).2 (IX_of (j := 4) rfl (by decide) (by decide)) dX12_image_87 (fun M41 hM42 => ?_)
  refine JJ_aload_n dX12_image_88 rfl rfl ?_
  refine JJ_getr (q := o + 14) (cis := [12]) (k := 43) fa_X12_53 (by decide) hR.1 rfl (hR.2 (43, 14, 20, 12) (by decide)).1 dX12_image_89 ?_
  refine JJ_bipush (v := 6) dX12_image_92 rfl ?_
  refine JJ_iload_n dX12_image_94 rfl rfl ?_
  refine JJ_iadd dX12_image_95 ?_
  refine JJ_eqi (x2 := 10) (by decide) ?_
  refine JJ_aload_n dX12_image_96 rfl rfl ?_
  refine JJ_getr (q := o + 10) (cis := [12]) (k := 14) fa_X12_41 (by decide) hR.1 rfl (hR.2 (14, 10, 20, 6) (by decide)).1 dX12_image_97 ?_
  refine JJ_iload_n dX12_image_100 rfl rfl ?_
  refine JJ_ialdX (v := A.1 7 4) (hR.2 (14, 10, 20, 6) (by decide)).2 (IX_of (j := 4) rfl (by decide) (by decide)) (hN.2.1 10 _ (by decide) (by decide)) (rd_n hM42 (by omega) (rd_n hM39 (by omega) (rd_n hM37 (by omega) (rd_n hM34 (by omega) (rd_n hM32 (by omega) (rd_n hM29 (by omega) (rd_n hM27 (by omega) (rd_n hM24 (by omega) (rd_n hM22 (by omega) (rd_n hM18 (by omega) (rd_n hM16 (by omega) (rd_n hM14 (by omega) (rd_n hM12 (by omega) (rd_n hM9 (by omega) (rd_n hM7 (by omega) (rd_n hM5 (by omega) (rd_n hM3 (by omega) (hA.loc _ _ _ _ (LC_7 (by decide)))))))))))))))))))) dX12_image_101 ?_
  refine JJ_iastX (hR.2 (43, 14, 20, 12) (by decide)).2 (IX_of (j := 10) rfl (by decide) (by decide)) dX12_image_102 (fun M43 hM44 => ?_)
  refine JJ_iinc (v := 5) (lv' := [(1, .int 5), (0, .ref o)]) dX12_image_103 rfl (by decide) (by decide) rfl ?_
  refine JJ_goto (tgt := 70) dX12_image_106 (by decide) ?_
  refine JJ_iload_n dX12_image_70 rfl rfl ?_
  refine JJ_bipush (v := 6) dX12_image_71 rfl ?_
  refine JJ_icmp_ge (tgt := 109) dX12_image_73 (by decide) (fun c45 => absurd c45 (by decide)) (fun _ => ?_)
  refine JJ_aload_n dX12_image_76 rfl rfl ?_
  refine JJ_getr (q := o + 14) (cis := [12]) (k := 43) fa_X12_53 (by decide) hR.1 rfl (hR.2 (43, 14, 20, 12) (by decide)).1 dX12_image_77 ?_
  refine JJ_iload_n dX12_image_80 rfl rfl ?_
  refine JJ_aload_n dX12_image_81 rfl rfl ?_
  refine JJ_getr (q := o + 9) (cis := [12]) (k := 13) fa_X12_38 (by decide) hR.1 rfl (hR.2 (13, 9, 20, 6) (by decide)).1 dX12_image_82 ?_
  refine JJ_iload_n dX12_image_85 rfl rfl ?_
  refine JJ_ialdX (v := A.1 6 5) (hR.2 (13, 9, 20, 6) (by decide)).2 (IX_of (j := 5) rfl (by decide) (by decide)) (hN.2.1 9 _ (by decide) (by decide)) (rd_n hM44 (by omega) (rd_n hM42 (by omega) (rd_n hM39 (by omega) (rd_n hM37 (by omega) (rd_n hM34 (by omega) (rd_n hM32 (by omega) (rd_n hM29 (by omega) (rd_n hM27 (by omega) (rd_n hM24 (by omega) (rd_n hM22 (by omega) (rd_n hM18 (by omega) (rd_n hM16 (by omega) (rd_n hM14 (by omega) (rd_n hM12 (by omega) (rd_n hM9 (by omega) (rd_n hM7 (by omega) (rd_n hM5 (by omega) (rd_n hM3 (by omega) (hA.loc _ _ _ _ (LC_6 (by decide))))))))))))))))))))) dX12_image_86 ?_
  refine JJ_iastX (hR.2 (43, 14, 20, 12) (by decide)).2 (IX_of (j := 5) rfl (by decide) (by decide)) dX12_image_87 (fun M46 hM47 => ?_)
  refine JJ_aload_n dX12_image_88 rfl rfl ?_
  refine JJ_getr (q := o + 14) (cis := [12]) (k := 43) fa_X12_53 (by decide) hR.1 rfl (hR.2 (43, 14, 20, 12) (by decide)).1 dX12_image_89 ?_
  refine JJ_bipush (v := 6) dX12_image_92 rfl ?_
  refine JJ_iload_n dX12_image_94 rfl rfl ?_
  refine JJ_iadd dX12_image_95 ?_
  refine JJ_eqi (x2 := 11) (by decide) ?_
  refine JJ_aload_n dX12_image_96 rfl rfl ?_
  refine JJ_getr (q := o + 10) (cis := [12]) (k := 14) fa_X12_41 (by decide) hR.1 rfl (hR.2 (14, 10, 20, 6) (by decide)).1 dX12_image_97 ?_
  refine JJ_iload_n dX12_image_100 rfl rfl ?_
  refine JJ_ialdX (v := A.1 7 5) (hR.2 (14, 10, 20, 6) (by decide)).2 (IX_of (j := 5) rfl (by decide) (by decide)) (hN.2.1 10 _ (by decide) (by decide)) (rd_n hM47 (by omega) (rd_n hM44 (by omega) (rd_n hM42 (by omega) (rd_n hM39 (by omega) (rd_n hM37 (by omega) (rd_n hM34 (by omega) (rd_n hM32 (by omega) (rd_n hM29 (by omega) (rd_n hM27 (by omega) (rd_n hM24 (by omega) (rd_n hM22 (by omega) (rd_n hM18 (by omega) (rd_n hM16 (by omega) (rd_n hM14 (by omega) (rd_n hM12 (by omega) (rd_n hM9 (by omega) (rd_n hM7 (by omega) (rd_n hM5 (by omega) (rd_n hM3 (by omega) (hA.loc _ _ _ _ (LC_7 (by decide)))))))))))))))))))))) dX12_image_101 ?_
  refine JJ_iastX (hR.2 (43, 14, 20, 12) (by decide)).2 (IX_of (j := 11) rfl (by decide) (by decide)) dX12_image_102 (fun M48 hM49 => ?_)
  refine JJ_iinc (v := 6) (lv' := [(1, .int 6), (0, .ref o)]) dX12_image_103 rfl (by decide) (by decide) rfl ?_
  refine JJ_goto (tgt := 70) dX12_image_106 (by decide) ?_
  refine JJ_iload_n dX12_image_70 rfl rfl ?_
  refine JJ_bipush (v := 6) dX12_image_71 rfl ?_
  refine JJ_icmp_ge (tgt := 109) dX12_image_73 (by decide) (fun _ => ?_) (fun c50 => absurd (by decide) c50)
  refine JJ_aload_n dX12_image_109 rfl rfl ?_
  refine JJ_aload_n dX12_image_110 rfl rfl ?_
  refine JJ_geti (v := A.1 8 0) (cis := [12]) (k := 15) fa_X12_79 (by decide) hR.1 rfl (hN.1 15 (by decide)) (rd_n hM49 (by omega) (rd_n hM47 (by omega) (rd_n hM44 (by omega) (rd_n hM42 (by omega) (rd_n hM39 (by omega) (rd_n hM37 (by omega) (rd_n hM34 (by omega) (rd_n hM32 (by omega) (rd_n hM29 (by omega) (rd_n hM27 (by omega) (rd_n hM24 (by omega) (rd_n hM22 (by omega) (rd_n hM18 (by omega) (rd_n hM16 (by omega) (rd_n hM14 (by omega) (rd_n hM12 (by omega) (rd_n hM9 (by omega) (rd_n hM7 (by omega) (rd_n hM5 (by omega) (rd_n hM3 (by omega) hA.cnt)))))))))))))))))))) dX12_image_111 ?_
  refine JJ_puti (cis := [12]) (k := 44) fa_X12_56 (by decide) hR.1 rfl (fun r hr => by cases hr; exact ⟨rfl, by decide +kernel⟩) dX12_image_114 (fun M51 hM52 => ?_)
  refine JJ_aload_n dX12_image_117 rfl rfl ?_
  refine JJ_aload_n dX12_image_118 rfl rfl ?_
  refine JJ_geti (v := A.1 4 0) (cis := [12]) (k := 11) fa_X12_109 (by decide) hR.1 rfl (hN.1 11 (by decide)) (rd_n hM52 (by omega) (rd_n hM49 (by omega) (rd_n hM47 (by omega) (rd_n hM44 (by omega) (rd_n hM42 (by omega) (rd_n hM39 (by omega) (rd_n hM37 (by omega) (rd_n hM34 (by omega) (rd_n hM32 (by omega) (rd_n hM29 (by omega) (rd_n hM27 (by omega) (rd_n hM24 (by omega) (rd_n hM22 (by omega) (rd_n hM18 (by omega) (rd_n hM16 (by omega) (rd_n hM14 (by omega) (rd_n hM12 (by omega) (rd_n hM9 (by omega) (rd_n hM7 (by omega) (rd_n hM5 (by omega) (rd_n hM3 (by omega) hA.c11))))))))))))))))))))) dX12_image_119 ?_
  refine JJ_puti (cis := [12]) (k := 45) fa_X12_364 (by decide) hR.1 rfl (fun r hr => by cases hr; exact ⟨rfl, by decide +kernel⟩) dX12_image_122 (fun M53 hM54 => ?_)
  refine JJ_aload_n dX12_image_125 rfl rfl ?_
  refine JJ_aload_n dX12_image_126 rfl rfl ?_
  refine JJ_geti (v := A.1 9 0) (cis := [12]) (k := 4) fa_X12_239 (by decide) hR.1 rfl (hN.1 4 (by decide)) (rd_n hM54 (by omega) (rd_n hM52 (by omega) (rd_n hM49 (by omega) (rd_n hM47 (by omega) (rd_n hM44 (by omega) (rd_n hM42 (by omega) (rd_n hM39 (by omega) (rd_n hM37 (by omega) (rd_n hM34 (by omega) (rd_n hM32 (by omega) (rd_n hM29 (by omega) (rd_n hM27 (by omega) (rd_n hM24 (by omega) (rd_n hM22 (by omega) (rd_n hM18 (by omega) (rd_n hM16 (by omega) (rd_n hM14 (by omega) (rd_n hM12 (by omega) (rd_n hM9 (by omega) (rd_n hM7 (by omega) (rd_n hM5 (by omega) (rd_n hM3 (by omega) hA.rul)))))))))))))))))))))) dX12_image_127 ?_
  refine JJ_puti (cis := [12]) (k := 46) fa_X12_367 (by decide) hR.1 rfl (fun r hr => by cases hr; exact ⟨rfl, by decide +kernel⟩) dX12_image_130 (fun M55 hM56 => ?_)
  refine JJ_aload_n dX12_image_133 rfl rfl ?_
  refine JJ_geti (v := A.1 8 0) (cis := [12]) (k := 15) fa_X12_79 (by decide) hR.1 rfl (hN.1 15 (by decide)) (rd_n hM56 (by omega) (rd_n hM54 (by omega) (rd_n hM52 (by omega) (rd_n hM49 (by omega) (rd_n hM47 (by omega) (rd_n hM44 (by omega) (rd_n hM42 (by omega) (rd_n hM39 (by omega) (rd_n hM37 (by omega) (rd_n hM34 (by omega) (rd_n hM32 (by omega) (rd_n hM29 (by omega) (rd_n hM27 (by omega) (rd_n hM24 (by omega) (rd_n hM22 (by omega) (rd_n hM18 (by omega) (rd_n hM16 (by omega) (rd_n hM14 (by omega) (rd_n hM12 (by omega) (rd_n hM9 (by omega) (rd_n hM7 (by omega) (rd_n hM5 (by omega) (rd_n hM3 (by omega) hA.cnt))))))))))))))))))))))) dX12_image_134 ?_
  refine JJ_iret dX12_image_137 rfl ?_
  exact zI_r rfl (by rw [hM56, hM54, hM52, hM49, hM47, hM44, hM42, hM39, hM37, hM34, hM32, hM29, hM27, hM24, hM22, hM18, hM16, hM14, hM12, hM9, hM7, hM5, hM3]; exact (up_abs (up_abs (up_abs (up_abs (up_abs (up_abs (up_abs (up_abs (up_abs (up_abs (up_abs (up_abs (up_abs (up_abs (up_abs (up_abs (up_abs (up_abs (up_abs (up_abs (up_abs (up_abs (up_abs hA (LC_13 (by decide)) (by decide)) (LC_13 (by decide)) (by decide)) (LC_13 (by decide)) (by decide)) (LC_13 (by decide)) (by decide)) (LC_13 (by decide)) (by decide)) (LC_13 (by decide)) (by decide)) (LC_13 (by decide)) (by decide)) (LC_13 (by decide)) (by decide)) (LC_14 (by decide)) (by decide)) (LC_14 (by decide)) (by decide)) (LC_14 (by decide)) (by decide)) (LC_14 (by decide)) (by decide)) (LC_14 (by decide)) (by decide)) (LC_14 (by decide)) (by decide)) (LC_14 (by decide)) (by decide)) (LC_14 (by decide)) (by decide)) (LC_14 (by decide)) (by decide)) (LC_14 (by decide)) (by decide)) (LC_14 (by decide)) (by decide)) (LC_14 (by decide)) (by decide)) LC_15_0 (by decide)) LC_15_1 (by decide)) LC_15_2 (by decide))) (fun b k z => rd_n hM56 (fun e => z (by unfold RO; omega)) (rd_n hM54 (fun e => z (by unfold RO; omega)) (rd_n hM52 (fun e => z (by unfold RO; omega)) (rd_n hM49 (fun e => z (by unfold RO; omega)) (rd_n hM47 (fun e => z (by unfold RO; omega)) (rd_n hM44 (fun e => z (by unfold RO; omega)) (rd_n hM42 (fun e => z (by unfold RO; omega)) (rd_n hM39 (fun e => z (by unfold RO; omega)) (rd_n hM37 (fun e => z (by unfold RO; omega)) (rd_n hM34 (fun e => z (by unfold RO; omega)) (rd_n hM32 (fun e => z (by unfold RO; omega)) (rd_n hM29 (fun e => z (by unfold RO; omega)) (rd_n hM27 (fun e => z (by unfold RO; omega)) (rd_n hM24 (fun e => z (by unfold RO; omega)) (rd_n hM22 (fun e => z (by unfold RO; omega)) (rd_n hM18 (fun e => z (by unfold RO; omega)) (rd_n hM16 (fun e => z (by unfold RO; omega)) (rd_n hM14 (fun e => z (by unfold RO; omega)) (rd_n hM12 (fun e => z (by unfold RO; omega)) (rd_n hM9 (fun e => z (by unfold RO; omega)) (rd_n hM7 (fun e => z (by unfold RO; omega)) (rd_n hM5 (fun e => z (by unfold RO; omega)) (rd_n hM3 (fun e => z (by unfold RO; omega)) (rfl))))))))))))))))))))))))
set_option maxHeartbeats 4000000 in
set_option maxRecDepth 100000 in
theorem kr_back {A : Abs} (hA : rABS o M A) (hg2 : RNG2 A) (hR : RWF o S P) (hN : HSR o sc) : KK G sc yX12_back cX12_back 2 (some .int) 3 0 0 [.ref o] (n, S, M, L, P) (zI o n S M P (zr_back A).1 (zr_back A).2) := by
  have hg : RNG A := hg2.1
  refine KK_of2 [(0, .ref o)] (by decide +kernel) (Nat.le_of_ble_eq_true rfl) rfl ?_
  refine JJ_aload_n dX12_back_0 rfl rfl ?_
  refine JJ_geti (v := A.1 15 0) (cis := [12]) (k := 44) fa_X12_56 (by decide) hR.1 rfl (hN.1 44 (by decide)) hA.k15.1 dX12_back_1 ?_
  refine JJ_iconst (v := (-1)) dX12_back_4 rfl ?_
  refine JJ_icmp_ne (tgt := 11) dX12_back_5 (by decide) (fun c1 => ?_) (fun c1 => ?_)
  · skip
    refine JJ_iconst (v := 0) dX12_back_11 rfl ?_
    refine JJ_istore_n (lv' := [(1, .int 0), (0, .ref o)]) dX12_back_12 rfl (by decide) rfl ?_
    refine JJ_iload_n dX12_back_13 rfl rfl ?_
    refine JJ_iconst (v := 2) dX12_back_14 rfl ?_
    refine JJ_icmp_ge (tgt := 79) dX12_back_15 (by decide) (fun c2 => absurd c2 (by decide)) (fun _ => ?_)
    refine JJ_aload_n dX12_back_18 rfl rfl ?_
    refine JJ_getr (q := o + 4) (cis := [12]) (k := 7) fa_X12_23 (by decide) hR.1 rfl (hR.2 (7, 4, 20, 2) (by decide)).1 dX12_back_19 ?_
    refine JJ_iload_n dX12_back_22 rfl rfl ?_
    refine JJ_aload_n dX12_back_23 rfl rfl ?_
    refine JJ_getr (q := o + 13) (cis := [12]) (k := 42) fa_X12_50 (by decide) hR.1 rfl (hR.2 (42, 13, 20, 8) (by decide)).1 dX12_back_24 ?_
    refine JJ_iload_n dX12_back_27 rfl rfl ?_
    refine JJ_ialdX (v := A.1 13 0) (hR.2 (42, 13, 20, 8) (by decide)).2 (IX_of (j := 0) rfl (by decide) (by decide)) (hN.2.1 13 _ (by decide) (by decide)) (hA.loc _ _ _ _ (LC_13 (by decide))) dX12_back_28 ?_
    refine JJ_iastX (hR.2 (7, 4, 20, 2) (by decide)).2 (IX_of (j := 0) rfl (by decide) (by decide)) dX12_back_29 (fun M3 hM4 => ?_)
    refine JJ_aload_n dX12_back_30 rfl rfl ?_
    refine JJ_getr (q := o + 5) (cis := [12]) (k := 8) fa_X12_26 (by decide) hR.1 rfl (hR.2 (8, 5, 20, 2) (by decide)).1 dX12_back_31 ?_
    refine JJ_iload_n dX12_back_34 rfl rfl ?_
    refine JJ_aload_n dX12_back_35 rfl rfl ?_
    refine JJ_getr (q := o + 13) (cis := [12]) (k := 42) fa_X12_50 (by decide) hR.1 rfl (hR.2 (42, 13, 20, 8) (by decide)).1 dX12_back_36 ?_
    refine JJ_iconst (v := 2) dX12_back_39 rfl ?_
    refine JJ_iload_n dX12_back_40 rfl rfl ?_
    refine JJ_iadd dX12_back_41 ?_
    refine JJ_eqi (x2 := 2) (by decide) ?_
    refine JJ_ialdX (v := A.1 13 2) (hR.2 (42, 13, 20, 8) (by decide)).2 (IX_of (j := 2) rfl (by decide) (by decide)) (hN.2.1 13 _ (by decide) (by decide)) (rd_n hM4 (by omega) (hA.loc _ _ _ _ (LC_13 (by decide)))) dX12_back_42 ?_
    refine JJ_iastX (hR.2 (8, 5, 20, 2) (by decide)).2 (IX_of (j := 0) rfl (by decide) (by decide)) dX12_back_43 (fun M5 hM6 => ?_)
    refine JJ_aload_n dX12_back_44 rfl rfl ?_
    refine JJ_getr (q := o + 6) (cis := [12]) (k := 9) fa_X12_29 (by decide) hR.1 rfl (hR.2 (9, 6, 20, 2) (by decide)).1 dX12_back_45 ?_
    refine JJ_iload_n dX12_back_48 rfl rfl ?_
    refine JJ_aload_n dX12_back_49 rfl rfl ?_
    refine JJ_getr (q := o + 13) (cis := [12]) (k := 42) fa_X12_50 (by decide) hR.1 rfl (hR.2 (42, 13, 20, 8) (by decide)).1 dX12_back_50 ?_
    refine JJ_iconst (v := 4) dX12_back_53 rfl ?_
    refine JJ_iload_n dX12_back_54 rfl rfl ?_
    refine JJ_iadd dX12_back_55 ?_
    refine JJ_eqi (x2 := 4) (by decide) ?_
    refine JJ_ialdX (v := A.1 13 4) (hR.2 (42, 13, 20, 8) (by decide)).2 (IX_of (j := 4) rfl (by decide) (by decide)) (hN.2.1 13 _ (by decide) (by decide)) (rd_n hM6 (by omega) (rd_n hM4 (by omega) (hA.loc _ _ _ _ (LC_13 (by decide))))) dX12_back_56 ?_
    refine JJ_iastX (hR.2 (9, 6, 20, 2) (by decide)).2 (IX_of (j := 0) rfl (by decide) (by decide)) dX12_back_57 (fun M7 hM8 => ?_)
    refine JJ_aload_n dX12_back_58 rfl rfl ?_
    refine JJ_getr (q := o + 7) (cis := [12]) (k := 10) fa_X12_32 (by decide) hR.1 rfl (hR.2 (10, 7, 20, 2) (by decide)).1 dX12_back_59 ?_
    refine JJ_iload_n dX12_back_62 rfl rfl ?_
    refine JJ_aload_n dX12_back_63 rfl rfl ?_
    refine JJ_getr (q := o + 13) (cis := [12]) (k := 42) fa_X12_50 (by decide) hR.1 rfl (hR.2 (42, 13, 20, 8) (by decide)).1 dX12_back_64 ?_
    refine JJ_bipush (v := 6) dX12_back_67 rfl ?_
    refine JJ_iload_n dX12_back_69 rfl rfl ?_
    refine JJ_iadd dX12_back_70 ?_
    refine JJ_eqi (x2 := 6) (by decide) ?_
    refine JJ_ialdX (v := A.1 13 6) (hR.2 (42, 13, 20, 8) (by decide)).2 (IX_of (j := 6) rfl (by decide) (by decide)) (hN.2.1 13 _ (by decide) (by decide)) (rd_n hM8 (by omega) (rd_n hM6 (by omega) (rd_n hM4 (by omega) (hA.loc _ _ _ _ (LC_13 (by decide)))))) dX12_back_71 ?_
    refine JJ_iastX (hR.2 (10, 7, 20, 2) (by decide)).2 (IX_of (j := 0) rfl (by decide) (by decide)) dX12_back_72 (fun M9 hM10 => ?_)
    refine JJ_iinc (v := 1) (lv' := [(1, .int 1), (0, .ref o)]) dX12_back_73 rfl (by decide) (by decide) rfl ?_
    refine JJ_goto (tgt := 13) dX12_back_76 (by decide) ?_
    refine JJ_iload_n dX12_back_13 rfl rfl ?_
    refine JJ_iconst (v := 2) dX12_back_14 rfl ?_
    refine JJ_icmp_ge (tgt := 79) dX12_back_15 (by decide) (fun c11 => absurd c11 (by decide)) (fun _ => ?_)
    refine JJ_aload_n dX12_back_18 rfl rfl ?_
    refine JJ_getr (q := o + 4) (cis := [12]) (k := 7) fa_X12_23 (by decide) hR.1 rfl (hR.2 (7, 4, 20, 2) (by decide)).1 dX12_back_19 ?_
    refine JJ_iload_n dX12_back_22 rfl rfl ?_
    refine JJ_aload_n dX12_back_23 rfl rfl ?_
    refine JJ_getr (q := o + 13) (cis := [12]) (k := 42) fa_X12_50 (by decide) hR.1 rfl (hR.2 (42, 13, 20, 8) (by decide)).1 dX12_back_24 ?_
    refine JJ_iload_n dX12_back_27 rfl rfl ?_
    refine JJ_ialdX (v := A.1 13 1) (hR.2 (42, 13, 20, 8) (by decide)).2 (IX_of (j := 1) rfl (by decide) (by decide)) (hN.2.1 13 _ (by decide) (by decide)) (rd_n hM10 (by omega) (rd_n hM8 (by omega) (rd_n hM6 (by omega) (rd_n hM4 (by omega) (hA.loc _ _ _ _ (LC_13 (by decide))))))) dX12_back_28 ?_
    refine JJ_iastX (hR.2 (7, 4, 20, 2) (by decide)).2 (IX_of (j := 1) rfl (by decide) (by decide)) dX12_back_29 (fun M12 hM13 => ?_)
    refine JJ_aload_n dX12_back_30 rfl rfl ?_
    refine JJ_getr (q := o + 5) (cis := [12]) (k := 8) fa_X12_26 (by decide) hR.1 rfl (hR.2 (8, 5, 20, 2) (by decide)).1 dX12_back_31 ?_
    refine JJ_iload_n dX12_back_34 rfl rfl ?_
    refine JJ_aload_n dX12_back_35 rfl rfl ?_
    refine JJ_getr (q := o + 13) (cis := [12]) (k := 42) fa_X12_50 (by decide) hR.1 rfl (hR.2 (42, 13, 20, 8) (by decide)).1 dX12_back_36 ?_
    refine JJ_iconst (v := 2) dX12_back_39 rfl ?_
    refine JJ_iload_n dX12_back_40 rfl rfl ?_
    refine JJ_iadd dX12_back_41 ?_
    refine JJ_eqi (x2 := 3) (by decide) ?_
    refine JJ_ialdX (v := A.1 13 3) (hR.2 (42, 13, 20, 8) (by decide)).2 (IX_of (j := 3) rfl (by decide) (by decide)) (hN.2.1 13 _ (by decide) (by decide)) (rd_n hM13 (by omega) (rd_n hM10 (by omega) (rd_n hM8 (by omega) (rd_n hM6 (by omega) (rd_n hM4 (by omega) (hA.loc _ _ _ _ (LC_13 (by decide)))))))) dX12_back_42 ?_
    refine JJ_iastX (hR.2 (8, 5, 20, 2) (by decide)).2 (IX_of (j := 1) rfl (by decide) (by decide)) dX12_back_43 (fun M14 hM15 => ?_)
    refine JJ_aload_n dX12_back_44 rfl rfl ?_
    refine JJ_getr (q := o + 6) (cis := [12]) (k := 9) fa_X12_29 (by decide) hR.1 rfl (hR.2 (9, 6, 20, 2) (by decide)).1 dX12_back_45 ?_
    refine JJ_iload_n dX12_back_48 rfl rfl ?_
    refine JJ_aload_n dX12_back_49 rfl rfl ?_
    refine JJ_getr (q := o + 13) (cis := [12]) (k := 42) fa_X12_50 (by decide) hR.1 rfl (hR.2 (42, 13, 20, 8) (by decide)).1 dX12_back_50 ?_
    refine JJ_iconst (v := 4) dX12_back_53 rfl ?_
    refine JJ_iload_n dX12_back_54 rfl rfl ?_
    refine JJ_iadd dX12_back_55 ?_
    refine JJ_eqi (x2 := 5) (by decide) ?_
    refine JJ_ialdX (v := A.1 13 5) (hR.2 (42, 13, 20, 8) (by decide)).2 (IX_of (j := 5) rfl (by decide) (by decide)) (hN.2.1 13 _ (by decide) (by decide)) (rd_n hM15 (by omega) (rd_n hM13 (by omega) (rd_n hM10 (by omega) (rd_n hM8 (by omega) (rd_n hM6 (by omega) (rd_n hM4 (by omega) (hA.loc _ _ _ _ (LC_13 (by decide))))))))) dX12_back_56 ?_
    refine JJ_iastX (hR.2 (9, 6, 20, 2) (by decide)).2 (IX_of (j := 1) rfl (by decide) (by decide)) dX12_back_57 (fun M16 hM17 => ?_)
    refine JJ_aload_n dX12_back_58 rfl rfl ?_
    refine JJ_getr (q := o + 7) (cis := [12]) (k := 10) fa_X12_32 (by decide) hR.1 rfl (hR.2 (10, 7, 20, 2) (by decide)).1 dX12_back_59 ?_
    refine JJ_iload_n dX12_back_62 rfl rfl ?_
    refine JJ_aload_n dX12_back_63 rfl rfl ?_
    refine JJ_getr (q := o + 13) (cis := [12]) (k := 42) fa_X12_50 (by decide) hR.1 rfl (hR.2 (42, 13, 20, 8) (by decide)).1 dX12_back_64 ?_
    refine JJ_bipush (v := 6) dX12_back_67 rfl ?_
    refine JJ_iload_n dX12_back_69 rfl rfl ?_
    refine JJ_iadd dX12_back_70 ?_
    refine JJ_eqi (x2 := 7) (by decide) ?_
    refine JJ_ialdX (v := A.1 13 7) (hR.2 (42, 13, 20, 8) (by decide)).2 (IX_of (j := 7) rfl (by decide) (by decide)) (hN.2.1 13 _ (by decide) (by decide)) (rd_n hM17 (by omega) (rd_n hM15 (by omega) (rd_n hM13 (by omega) (rd_n hM10 (by omega) (rd_n hM8 (by omega) (rd_n hM6 (by omega) (rd_n hM4 (by omega) (hA.loc _ _ _ _ (LC_13 (by decide)))))))))) dX12_back_71 ?_
    refine JJ_iastX (hR.2 (10, 7, 20, 2) (by decide)).2 (IX_of (j := 1) rfl (by decide) (by decide)) dX12_back_72 (fun M18 hM19 => ?_)
    refine JJ_iinc (v := 2) (lv' := [(1, .int 2), (0, .ref o)]) dX12_back_73 rfl (by decide) (by decide) rfl ?_
    refine JJ_goto (tgt := 13) dX12_back_76 (by decide) ?_
    refine JJ_iload_n dX12_back_13 rfl rfl ?_
    refine JJ_iconst (v := 2) dX12_back_14 rfl ?_
    refine JJ_icmp_ge (tgt := 79) dX12_back_15 (by decide) (fun _ => ?_) (fun c20 => absurd (by decide) c20)
    refine JJ_iconst (v := 0) dX12_back_79 rfl ?_
    refine JJ_istore_n (lv' := [(1, .int 0), (0, .ref o)]) dX12_back_80 rfl (by decide) rfl ?_
    refine JJ_iload_n dX12_back_81 rfl rfl ?_
    refine JJ_bipush (v := 6) dX12_back_82 rfl ?_
    refine JJ_icmp_ge (tgt := 120) dX12_back_84 (by decide) (fun c21 => absurd c21 (by decide)) (fun _ => ?_)
    refine JJ_aload_n dX12_back_87 rfl rfl ?_
    refine JJ_getr (q := o + 9) (cis := [12]) (k := 13) fa_X12_38 (by decide) hR.1 rfl (hR.2 (13, 9, 20, 6) (by decide)).1 dX12_back_88 ?_
    refine JJ_iload_n dX12_back_91 rfl rfl ?_
    refine JJ_aload_n dX12_back_92 rfl rfl ?_
    refine JJ_getr (q := o + 14) (cis := [12]) (k := 43) fa_X12_53 (by decide) hR.1 rfl (hR.2 (43, 14, 20, 12) (by decide)).1 dX12_back_93 ?_
    refine JJ_iload_n dX12_back_96 rfl rfl ?_
    refine JJ_ialdX (v := A.1 14 0) (hR.2 (43, 14, 20, 12) (by decide)).2 (IX_of (j := 0) rfl (by decide) (by decide)) (hN.2.1 14 _ (by decide) (by decide)) (rd_n hM19 (by omega) (rd_n hM17 (by omega) (rd_n hM15 (by omega) (rd_n hM13 (by omega) (rd_n hM10 (by omega) (rd_n hM8 (by omega) (rd_n hM6 (by omega) (rd_n hM4 (by omega) (hA.loc _ _ _ _ (LC_14 (by decide))))))))))) dX12_back_97 ?_
    refine JJ_iastX (hR.2 (13, 9, 20, 6) (by decide)).2 (IX_of (j := 0) rfl (by decide) (by decide)) dX12_back_98 (fun M22 hM23 => ?_)
    refine JJ_aload_n dX12_back_99 rfl rfl ?_
    refine JJ_getr (q := o + 10) (cis := [12]) (k := 14) fa_X12_41 (by decide) hR.1 rfl (hR.2 (14, 10, 20, 6) (by decide)).1 dX12_back_100 ?_
    refine JJ_iload_n dX12_back_103 rfl rfl ?_
    refine JJ_aload_n dX12_back_104 rfl rfl ?_
    refine JJ_getr (q := o + 14) (cis := [12]) (k := 43) fa_X12_53 (by decide) hR.1 rfl (hR.2 (43, 14, 20, 12) (by decide)).1 dX12_back_105 ?_
    refine JJ_bipush (v := 6) dX12_back_108 rfl ?_
    refine JJ_iload_n dX12_back_110 rfl rfl ?_
    refine JJ_iadd dX12_back_111 ?_
    refine JJ_eqi (x2 := 6) (by decide) ?_
    refine JJ_ialdX (v := A.1 14 6) (hR.2 (43, 14, 20, 12) (by decide)).2 (IX_of (j := 6) rfl (by decide) (by decide)) (hN.2.1 14 _ (by decide) (by decide)) (rd_n hM23 (by omega) (rd_n hM19 (by omega) (rd_n hM17 (by omega) (rd_n hM15 (by omega) (rd_n hM13 (by omega) (rd_n hM10 (by omega) (rd_n hM8 (by omega) (rd_n hM6 (by omega) (rd_n hM4 (by omega) (hA.loc _ _ _ _ (LC_14 (by decide)))))))))))) dX12_back_112 ?_
    refine JJ_iastX (hR.2 (14, 10, 20, 6) (by decide)).2 (IX_of (j := 0) rfl (by decide) (by decide)) dX12_back_113 (fun M24 hM25 => ?_)
    refine JJ_iinc (v := 1) (lv' := [(1, .int 1), (0, .ref o)]) dX12_back_114 rfl (by decide) (by decide) rfl ?_
    refine JJ_goto (tgt := 81) dX12_back_117 (by decide) ?_
    refine JJ_iload_n dX12_back_81 rfl rfl ?_
    refine JJ_bipush (v := 6) dX12_back_82 rfl ?_
    refine JJ_icmp_ge (tgt := 120) dX12_back_84 (by decide) (fun c26 => absurd c26 (by decide)) (fun _ => ?_)
    refine JJ_aload_n dX12_back_87 rfl rfl ?_
    refine JJ_getr (q := o + 9) (cis := [12]) (k := 13) fa_X12_38 (by decide) hR.1 rfl (hR.2 (13, 9, 20, 6) (by decide)).1 dX12_back_88 ?_
    refine JJ_iload_n dX12_back_91 rfl rfl ?_
    refine JJ_aload_n dX12_back_92 rfl rfl ?_
    refine JJ_getr (q := o + 14) (cis := [12]) (k := 43) fa_X12_53 (by decide) hR.1 rfl (hR.2 (43, 14, 20, 12) (by decide)).1 dX12_back_93 ?_
    refine JJ_iload_n dX12_back_96 rfl rfl ?_
    refine JJ_ialdX (v := A.1 14 1) (hR.2 (43, 14, 20, 12) (by decide)).2 (IX_of (j := 1) rfl (by decide) (by decide)) (hN.2.1 14 _ (by decide) (by decide)) (rd_n hM25 (by omega) (rd_n hM23 (by omega) (rd_n hM19 (by omega) (rd_n hM17 (by omega) (rd_n hM15 (by omega) (rd_n hM13 (by omega) (rd_n hM10 (by omega) (rd_n hM8 (by omega) (rd_n hM6 (by omega) (rd_n hM4 (by omega) (hA.loc _ _ _ _ (LC_14 (by decide))))))))))))) dX12_back_97 ?_
    refine JJ_iastX (hR.2 (13, 9, 20, 6) (by decide)).2 (IX_of (j := 1) rfl (by decide) (by decide)) dX12_back_98 (fun M27 hM28 => ?_)
    refine JJ_aload_n dX12_back_99 rfl rfl ?_
    refine JJ_getr (q := o + 10) (cis := [12]) (k := 14) fa_X12_41 (by decide) hR.1 rfl (hR.2 (14, 10, 20, 6) (by decide)).1 dX12_back_100 ?_
    refine JJ_iload_n dX12_back_103 rfl rfl ?_
    refine JJ_aload_n dX12_back_104 rfl rfl ?_
    refine JJ_getr (q := o + 14) (cis := [12]) (k := 43) fa_X12_53 (by decide) hR.1 rfl (hR.2 (43, 14, 20, 12) (by decide)).1 dX12_back_105 ?_
    refine JJ_bipush (v := 6) dX12_back_108 rfl ?_
    refine JJ_iload_n dX12_back_110 rfl rfl ?_
    refine JJ_iadd dX12_back_111 ?_
    refine JJ_eqi (x2 := 7) (by decide) ?_
    refine JJ_ialdX (v := A.1 14 7) (hR.2 (43, 14, 20, 12) (by decide)).2 (IX_of (j := 7) rfl (by decide) (by decide)) (hN.2.1 14 _ (by decide) (by decide)) (rd_n hM28 (by omega) (rd_n hM25 (by omega) (rd_n hM23 (by omega) (rd_n hM19 (by omega) (rd_n hM17 (by omega) (rd_n hM15 (by omega) (rd_n hM13 (by omega) (rd_n hM10 (by omega) (rd_n hM8 (by omega) (rd_n hM6 (by omega) (rd_n hM4 (by omega) (hA.loc _ _ _ _ (LC_14 (by decide)))))))))))))) dX12_back_112 ?_
    refine JJ_iastX (hR.2 (14, 10, 20, 6) (by decide)).2 (IX_of (j := 1) rfl (by decide) (by decide)) dX12_back_113 (fun M29 hM30 => ?_)
    refine JJ_iinc (v := 2) (lv' := [(1, .int 2), (0, .ref o)]) dX12_back_114 rfl (by decide) (by decide) rfl ?_
    refine JJ_goto (tgt := 81) dX12_back_117 (by decide) ?_
    refine JJ_iload_n dX12_back_81 rfl rfl ?_
    refine JJ_bipush (v := 6) dX12_back_82 rfl ?_
    refine JJ_icmp_ge (tgt := 120) dX12_back_84 (by decide) (fun c31 => absurd c31 (by decide)) (fun _ => ?_)
    refine JJ_aload_n dX12_back_87 rfl rfl ?_
    refine JJ_getr (q := o + 9) (cis := [12]) (k := 13) fa_X12_38 (by decide) hR.1 rfl (hR.2 (13, 9, 20, 6) (by decide)).1 dX12_back_88 ?_
    refine JJ_iload_n dX12_back_91 rfl rfl ?_
    refine JJ_aload_n dX12_back_92 rfl rfl ?_
    refine JJ_getr (q := o + 14) (cis := [12]) (k := 43) fa_X12_53 (by decide) hR.1 rfl (hR.2 (43, 14, 20, 12) (by decide)).1 dX12_back_93 ?_
    refine JJ_iload_n dX12_back_96 rfl rfl ?_
    refine JJ_ialdX (v := A.1 14 2) (hR.2 (43, 14, 20, 12) (by decide)).2 (IX_of (j := 2) rfl (by decide) (by decide)) (hN.2.1 14 _ (by decide) (by decide)) (rd_n hM30 (by omega) (rd_n hM28 (by omega) (rd_n hM25 (by omega) (rd_n hM23 (by omega) (rd_n hM19 (by omega) (rd_n hM17 (by omega) (rd_n hM15 (by omega) (rd_n hM13 (by omega) (rd_n hM10 (by omega) (rd_n hM8 (by omega) (rd_n hM6 (by omega) (rd_n hM4 (by omega) (hA.loc _ _ _ _ (LC_14 (by decide))))))))))))))) dX12_back_97 ?_
    refine JJ_iastX (hR.2 (13, 9, 20, 6) (by decide)).2 (IX_of (j := 2) rfl (by decide) (by decide)) dX12_back_98 (fun M32 hM33 => ?_)
    refine JJ_aload_n dX12_back_99 rfl rfl ?_
    refine JJ_getr (q := o + 10) (cis := [12]) (k := 14) fa_X12_41 (by decide) hR.1 rfl (hR.2 (14, 10, 20, 6) (by decide)).1 dX12_back_100 ?_
    refine JJ_iload_n dX12_back_103 rfl rfl ?_
    refine JJ_aload_n dX12_back_104 rfl rfl ?_
    refine JJ_getr (q := o + 14) (cis := [12]) (k := 43) fa_X12_53 (by decide) hR.1 rfl (hR.2 (43, 14, 20, 12) (by decide)).1 dX12_back_105 ?_
    refine JJ_bipush (v := 6) dX12_back_108 rfl ?_
    refine JJ_iload_n dX12_back_110 rfl rfl ?_
    refine JJ_iadd dX12_back_111 ?_
    refine JJ_eqi (x2 := 8) (by decide) ?_
    refine JJ_ialdX (v := A.1 14 8) (hR.2 (43, 14, 20, 12) (by decide)).2 (IX_of (j := 8) rfl (by decide) (by decide)) (hN.2.1 14 _ (by decide) (by decide)) (rd_n hM33 (by omega) (rd_n hM30 (by omega) (rd_n hM28 (by omega) (rd_n hM25 (by omega) (rd_n hM23 (by omega) (rd_n hM19 (by omega) (rd_n hM17 (by omega) (rd_n hM15 (by omega) (rd_n hM13 (by omega) (rd_n hM10 (by omega) (rd_n hM8 (by omega) (rd_n hM6 (by omega) (rd_n hM4 (by omega) (hA.loc _ _ _ _ (LC_14 (by decide)))))))))))))))) dX12_back_112 ?_
    refine JJ_iastX (hR.2 (14, 10, 20, 6) (by decide)).2 (IX_of (j := 2) rfl (by decide) (by decide)) dX12_back_113 (fun M34 hM35 => ?_)
    refine JJ_iinc (v := 3) (lv' := [(1, .int 3), (0, .ref o)]) dX12_back_114 rfl (by decide) (by decide) rfl ?_
    refine JJ_goto (tgt := 81) dX12_back_117 (by decide) ?_
    refine JJ_iload_n dX12_back_81 rfl rfl ?_
    refine JJ_bipush (v := 6) dX12_back_82 rfl ?_
    refine JJ_icmp_ge (tgt := 120) dX12_back_84 (by decide) (fun c36 => absurd c36 (by decide)) (fun _ => ?_)
    refine JJ_aload_n dX12_back_87 rfl rfl ?_
    refine JJ_getr (q := o + 9) (cis := [12]) (k := 13) fa_X12_38 (by decide) hR.1 rfl (hR.2 (13, 9, 20, 6) (by decide)).1 dX12_back_88 ?_
    refine JJ_iload_n dX12_back_91 rfl rfl ?_
    refine JJ_aload_n dX12_back_92 rfl rfl ?_
    refine JJ_getr (q := o + 14) (cis := [12]) (k := 43) fa_X12_53 (by decide) hR.1 rfl (hR.2 (43, 14, 20, 12) (by decide)).1 dX12_back_93 ?_
    refine JJ_iload_n dX12_back_96 rfl rfl ?_
    refine JJ_ialdX (v := A.1 14 3) (hR.2 (43, 14, 20, 12) (by decide)).2 (IX_of (j := 3) rfl (by decide) (by decide)) (hN.2.1 14 _ (by decide) (by decide)) (rd_n hM35 (by omega) (rd_n hM33 (by omega) (rd_n hM30 (by omega) (rd_n hM28 (by omega) (rd_n hM25 (by omega) (rd_n hM23 (by omega) (rd_n hM19 (by omega) (rd_n hM17 (by omega) (rd_n hM15 (by omega) (rd_n hM13 (by omega) (rd_n hM10 (by omega) (rd_n hM8 (by omega) (rd_n hM6 (by omega) (rd_n hM4 (by omega) (hA.loc _ _ _ _ (LC_14 (by decide))))))))))))))))) dX12_back_97 ?_
    refine JJ_iastX (hR.2 (13, 9, 20, 6) (by decide)).2 (IX_of (j := 3) rfl (by decide) (by decide)) dX12_back_98 (fun M37 hM38 => ?_)
    refine JJ_aload_n dX12_back_99 rfl rfl ?_
    refine JJ_getr (q := o + 10) (cis := [12]) (k := 14) fa_X12_41 (by decide) hR.1 rfl (hR.2 (14, 10, 20, 6) (by decide)).1 dX12_back_100 ?_
    refine JJ_iload_n dX12_back_103 rfl rfl ?_
    refine JJ_aload_n dX12_back_104 rfl rfl ?_
    refine JJ_getr (q := o + 14) (cis := [12]) (k := 43) fa_X12_53 (by decide) hR.1 rfl (hR.2 (43, 14, 20, 12) (by decide)).1 dX12_back_105 ?_
    refine JJ_bipush (v := 6) dX12_back_108 rfl ?_
    refine JJ_iload_n dX12_back_110 rfl rfl ?_
    refine JJ_iadd dX12_back_111 ?_
    refine JJ_eqi (x2 := 9) (by decide) ?_
    refine JJ_ialdX (v := A.1 14 9) (hR.2 (43, 14, 20, 12) (by decide)).2 (IX_of (j := 9) rfl (by decide) (by decide)) (hN.2.1 14 _ (by decide) (by decide)) (rd_n hM38 (by omega) (rd_n hM35 (by omega) (rd_n hM33 (by omega) (rd_n hM30 (by omega) (rd_n hM28 (by omega) (rd_n hM25 (by omega) (rd_n hM23 (by omega) (rd_n hM19 (by omega) (rd_n hM17 (by omega) (rd_n hM15 (by omega) (rd_n hM13 (by omega) (rd_n hM10 (by omega) (rd_n hM8 (by omega) (rd_n hM6 (by omega) (rd_n hM4 (by omega) (hA.loc _ _ _ _ (LC_14 (by decide)))))))))))))))))) dX12_back_112 ?_
    refine JJ_iastX (hR.2 (14, 10, 20, 6) (by decide)).2 (IX_of (j := 3) rfl (by decide) (by decide)) dX12_back_113 (fun M39 hM40 => ?_)
    refine JJ_iinc (v := 4) (lv' := [(1, .int 4), (0, .ref o)]) dX12_back_114 rfl (by decide) (by decide) rfl ?_
    refine JJ_goto (tgt := 81) dX12_back_117 (by decide) ?_
    refine JJ_iload_n dX12_back_81 rfl rfl ?_
    refine JJ_bipush (v := 6) dX12_back_82 rfl ?_
    refine JJ_icmp_ge (tgt := 120) dX12_back_84 (by decide) (fun c41 => absurd c41 (by decide)) (fun _ => ?_)
    refine JJ_aload_n dX12_back_87 rfl rfl ?_
    refine JJ_getr (q := o + 9) (cis := [12]) (k := 13) fa_X12_38 (by decide) hR.1 rfl (hR.2 (13, 9, 20, 6) (by decide)).1 dX12_back_88 ?_
    refine JJ_iload_n dX12_back_91 rfl rfl ?_
    refine JJ_aload_n dX12_back_92 rfl rfl ?_
    refine JJ_getr (q := o + 14) (cis := [12]) (k := 43) fa_X12_53 (by decide) hR.1 rfl (hR.2 (43, 14, 20, 12) (by decide)).1 dX12_back_93 ?_
    refine JJ_iload_n dX12_back_96 rfl rfl ?_
    refine JJ_ialdX (v := A.1 14 4) (hR.2 (43, 14, 20, 12) (by decide)).2 (IX_of (j := 4) rfl (by decide) (by decide)) (hN.2.1 14 _ (by decide) (by decide)) (rd_n hM40 (by omega) (rd_n hM38 (by omega) (rd_n hM35 (by omega) (rd_n hM33 (by omega) (rd_n hM30 (by omega) (rd_n hM28 (by omega) (rd_n hM25 (by omega) (rd_n hM23 (by omega) (rd_n hM19 (by omega) (rd_n hM17 (by omega) (rd_n hM15 (by omega) (rd_n hM13 (by omega) (rd_n hM10 (by omega) (rd_n hM8 (by omega) (rd_n hM6 (by omega) (rd_n hM4 (by omega) (hA.loc _ _ _ _ (LC_14 (by decide))))))))))))))))))) dX12_back_97 ?_
    refine JJ_iastX (hR.2 (13, 9, 20, 6) (by decide)).2 (IX_of (j := 4) rfl (by decide) (by decide)) dX12_back_98 (fun M42 hM43 => ?_)
    refine JJ_aload_n dX12_back_99 rfl rfl ?_
    refine JJ_getr (q := o + 10) (cis := [12]) (k := 14) fa_X12_41 (by decide) hR.1 rfl (hR.2 (14, 10, 20, 6) (by decide)).1 dX12_back_100 ?_
    refine JJ_iload_n dX12_back_103 rfl rfl ?_
    refine JJ_aload_n dX12_back_104 rfl rfl ?_
    refine JJ_getr (q := o + 14) (cis := [12]) (k := 43) fa_X12_53 (by decide) hR.1 rfl (hR.2 (43, 14, 20, 12) (by decide)).1 dX12_back_105 ?_
    refine JJ_bipush (v := 6) dX12_back_108 rfl ?_
    refine JJ_iload_n dX12_back_110 rfl rfl ?_
    refine JJ_iadd dX12_back_111 ?_
    refine JJ_eqi (x2 := 10) (by decide) ?_
    refine JJ_ialdX (v := A.1 14 10) (hR.2 (43, 14, 20, 12) (by decide)).2 (IX_of (j := 10) rfl (by decide) (by decide)) (hN.2.1 14 _ (by decide) (by decide)) (rd_n hM43 (by omega) (rd_n hM40 (by omega) (rd_n hM38 (by omega) (rd_n hM35 (by omega) (rd_n hM33 (by omega) (rd_n hM30 (by omega) (rd_n hM28 (by omega) (rd_n hM25 (by omega) (rd_n hM23 (by omega) (rd_n hM19 (by omega) (rd_n hM17 (by omega) (rd_n hM15 (by omega) (rd_n hM13 (by omega) (rd_n hM10 (by omega) (rd_n hM8 (by omega) (rd_n hM6 (by omega) (rd_n hM4 (by omega) (hA.loc _ _ _ _ (LC_14 (by decide)))))))))))))))))))) dX12_back_112 ?_
    refine JJ_iastX (hR.2 (14, 10, 20, 6) (by decide)).2 (IX_of (j := 4) rfl (by decide) (by decide)) dX12_back_113 (fun M44 hM45 => ?_)
    refine JJ_iinc (v := 5) (lv' := [(1, .int 5), (0, .ref o)]) dX12_back_114 rfl (by decide) (by decide) rfl ?_
    refine JJ_goto (tgt := 81) dX12_back_117 (by decide) ?_
    refine JJ_iload_n dX12_back_81 rfl rfl ?_
    refine JJ_bipush (v := 6) dX12_back_82 rfl ?_
    refine JJ_icmp_ge (tgt := 120) dX12_back_84 (by decide) (fun c46 => absurd c46 (by decide)) (fun _ => ?_)
    refine JJ_aload_n dX12_back_87 rfl rfl ?_
    refine JJ_getr (q := o + 9) (cis := [12]) (k := 13) fa_X12_38 (by decide) hR.1 rfl (hR.2 (13, 9, 20, 6) (by decide)).1 dX12_back_88 ?_
    refine JJ_iload_n dX12_back_91 rfl rfl ?_
    refine JJ_aload_n dX12_back_92 rfl rfl ?_
    refine JJ_getr (q := o + 14) (cis := [12]) (k := 43) fa_X12_53 (by decide) hR.1 rfl (hR.2 (43, 14, 20, 12) (by decide)).1 dX12_back_93 ?_
    refine JJ_iload_n dX12_back_96 rfl rfl ?_
    refine JJ_ialdX (v := A.1 14 5) (hR.2 (43, 14, 20, 12) (by decide)).2 (IX_of (j := 5) rfl (by decide) (by decide)) (hN.2.1 14 _ (by decide) (by decide)) (rd_n hM45 (by omega) (rd_n hM43 (by omega) (rd_n hM40 (by omega) (rd_n hM38 (by omega) (rd_n hM35 (by omega) (rd_n hM33 (by omega) (rd_n hM30 (by omega) (rd_n hM28 (by omega) (rd_n hM25 (by omega) (rd_n hM23 (by omega) (rd_n hM19 (by omega) (rd_n hM17 (by omega) (rd_n hM15 (by omega) (rd_n hM13 (by omega) (rd_n hM10 (by omega) (rd_n hM8 (by omega) (rd_n hM6 (by omega) (rd_n hM4 (by omega) (hA.loc _ _ _ _ (LC_14 (by decide))))))))))))))))))))) dX12_back_97 ?_
    refine JJ_iastX (hR.2 (13, 9, 20, 6) (by decide)).2 (IX_of (j := 5) rfl (by decide) (by decide)) dX12_back_98 (fun M47 hM48 => ?_)
    refine JJ_aload_n dX12_back_99 rfl rfl ?_
    refine JJ_getr (q := o + 10) (cis := [12]) (k := 14) fa_X12_41 (by decide) hR.1 rfl (hR.2 (14, 10, 20, 6) (by decide)).1 dX12_back_100 ?_
    refine JJ_iload_n dX12_back_103 rfl rfl ?_
    refine JJ_aload_n dX12_back_104 rfl rfl ?_
    refine JJ_getr (q := o + 14) (cis := [12]) (k := 43) fa_X12_53 (by decide) hR.1 rfl (hR.2 (43, 14, 20, 12) (by decide)).1 dX12_back_105 ?_
    refine JJ_bipush (v := 6) dX12_back_108 rfl ?_
    refine JJ_iload_n dX12_back_110 rfl rfl ?_
    refine JJ_iadd dX12_back_111 ?_
    refine JJ_eqi (x2 := 11) (by decide) ?_
    refine JJ_ialdX (v := A.1 14 11) (hR.2 (43, 14, 20, 12) (by decide)).2 (IX_of (j := 11) rfl (by decide) (by decide)) (hN.2.1 14 _ (by decide) (by decide)) (rd_n hM48 (by omega) (rd_n hM45 (by omega) (rd_n hM43 (by omega) (rd_n hM40 (by omega) (rd_n hM38 (by omega) (rd_n hM35 (by omega) (rd_n hM33 (by omega) (rd_n hM30 (by omega) (rd_n hM28 (by omega) (rd_n hM25 (by omega) (rd_n hM23 (by omega) (rd_n hM19 (by omega) (rd_n hM17 (by omega) (rd_n hM15 (by omega) (rd_n hM13 (by omega) (rd_n hM10 (by omega) (rd_n hM8 (by omega) (rd_n hM6 (by omega) (rd_n hM4 (by omega) (hA.loc _ _ _ _ (LC_14 (by decide)))))))))))))))))))))) dX12_back_112 ?_
    refine JJ_iastX (hR.2 (14, 10, 20, 6) (by decide)).2 (IX_of (j := 5) rfl (by decide) (by decide)) dX12_back_113 (fun M49 hM50 => ?_)
    refine JJ_iinc (v := 6) (lv' := [(1, .int 6), (0, .ref o)]) dX12_back_114 rfl (by decide) (by decide) rfl ?_
    refine JJ_goto (tgt := 81) dX12_back_117 (by decide) ?_
    refine JJ_iload_n dX12_back_81 rfl rfl ?_
    refine JJ_bipush (v := 6) dX12_back_82 rfl ?_
    refine JJ_icmp_ge (tgt := 120) dX12_back_84 (by decide) (fun _ => ?_) (fun c51 => absurd (by decide) c51)
    refine JJ_aload_n dX12_back_120 rfl rfl ?_
    refine JJ_aload_n dX12_back_121 rfl rfl ?_
    refine JJ_geti (v := A.1 15 0) (cis := [12]) (k := 44) fa_X12_56 (by decide) hR.1 rfl (hN.1 44 (by decide)) (rd_n hM50 (by omega) (rd_n hM48 (by omega) (rd_n hM45 (by omega) (rd_n hM43 (by omega) (rd_n hM40 (by omega) (rd_n hM38 (by omega) (rd_n hM35 (by omega) (rd_n hM33 (by omega) (rd_n hM30 (by omega) (rd_n hM28 (by omega) (rd_n hM25 (by omega) (rd_n hM23 (by omega) (rd_n hM19 (by omega) (rd_n hM17 (by omega) (rd_n hM15 (by omega) (rd_n hM13 (by omega) (rd_n hM10 (by omega) (rd_n hM8 (by omega) (rd_n hM6 (by omega) (rd_n hM4 (by omega) hA.k15.1)))))))))))))))))))) dX12_back_122 ?_
    refine JJ_puti (cis := [12]) (k := 15) fa_X12_79 (by decide) hR.1 rfl (fun r hr => by cases hr; exact ⟨rfl, by decide +kernel⟩) dX12_back_125 (fun M52 hM53 => ?_)
    refine JJ_aload_n dX12_back_128 rfl rfl ?_
    refine JJ_aload_n dX12_back_129 rfl rfl ?_
    refine JJ_geti (v := A.1 15 1) (cis := [12]) (k := 45) fa_X12_364 (by decide) hR.1 rfl (hN.1 45 (by decide)) (rd_n hM53 (by omega) (rd_n hM50 (by omega) (rd_n hM48 (by omega) (rd_n hM45 (by omega) (rd_n hM43 (by omega) (rd_n hM40 (by omega) (rd_n hM38 (by omega) (rd_n hM35 (by omega) (rd_n hM33 (by omega) (rd_n hM30 (by omega) (rd_n hM28 (by omega) (rd_n hM25 (by omega) (rd_n hM23 (by omega) (rd_n hM19 (by omega) (rd_n hM17 (by omega) (rd_n hM15 (by omega) (rd_n hM13 (by omega) (rd_n hM10 (by omega) (rd_n hM8 (by omega) (rd_n hM6 (by omega) (rd_n hM4 (by omega) hA.k15.2.1))))))))))))))))))))) dX12_back_130 ?_
    refine JJ_puti (cis := [12]) (k := 11) fa_X12_109 (by decide) hR.1 rfl (fun r hr => by cases hr; exact ⟨rfl, by decide +kernel⟩) dX12_back_133 (fun M54 hM55 => ?_)
    refine JJ_aload_n dX12_back_136 rfl rfl ?_
    refine JJ_aload_n dX12_back_137 rfl rfl ?_
    refine JJ_geti (v := A.1 15 2) (cis := [12]) (k := 46) fa_X12_367 (by decide) hR.1 rfl (hN.1 46 (by decide)) (rd_n hM55 (by omega) (rd_n hM53 (by omega) (rd_n hM50 (by omega) (rd_n hM48 (by omega) (rd_n hM45 (by omega) (rd_n hM43 (by omega) (rd_n hM40 (by omega) (rd_n hM38 (by omega) (rd_n hM35 (by omega) (rd_n hM33 (by omega) (rd_n hM30 (by omega) (rd_n hM28 (by omega) (rd_n hM25 (by omega) (rd_n hM23 (by omega) (rd_n hM19 (by omega) (rd_n hM17 (by omega) (rd_n hM15 (by omega) (rd_n hM13 (by omega) (rd_n hM10 (by omega) (rd_n hM8 (by omega) (rd_n hM6 (by omega) (rd_n hM4 (by omega) hA.k15.2.2)))))))))))))))))))))) dX12_back_138 ?_
    refine JJ_puti (cis := [12]) (k := 4) fa_X12_239 (by decide) hR.1 rfl (fun r hr => by cases hr; exact ⟨rfl, by decide +kernel⟩) dX12_back_141 (fun M56 hM57 => ?_)
    refine JJ_aload_n dX12_back_144 rfl rfl ?_
    refine JJ_geti (v := A.1 15 0) (cis := [12]) (k := 15) fa_X12_79 (by decide) hR.1 rfl (hN.1 15 (by decide)) (rd_n hM57 (by omega) (rd_n hM55 (by omega) (rd_s hM53))) dX12_back_145 ?_
    refine JJ_iret dX12_back_148 rfl ?_
    have e0 : zr_back A = (A.1 15 0, zBck A) := if_neg c1
    exact zI_r (by rw [e0]) (by rw [e0, hM57, hM55, hM53, hM50, hM48, hM45, hM43, hM40, hM38, hM35, hM33, hM30, hM28, hM25, hM23, hM19, hM17, hM15, hM13, hM10, hM8, hM6, hM4]; exact (up_abs (up_abs (up_abs (up_abs (up_abs (up_abs (up_abs (up_abs (up_abs (up_abs (up_abs (up_abs (up_abs (up_abs (up_abs (up_abs (up_abs (up_abs (up_abs (up_abs (up_abs (up_abs (up_abs hA (LC_0 (by decide)) (by decide)) (LC_1 (by decide)) (by decide)) (LC_2 (by decide)) (by decide)) (LC_3 (by decide)) (by decide)) (LC_0 (by decide)) (by decide)) (LC_1 (by decide)) (by decide)) (LC_2 (by decide)) (by decide)) (LC_3 (by decide)) (by decide)) (LC_6 (by decide)) (by decide)) (LC_7 (by decide)) (by decide)) (LC_6 (by decide)) (by decide)) (LC_7 (by decide)) (by decide)) (LC_6 (by decide)) (by decide)) (LC_7 (by decide)) (by decide)) (LC_6 (by decide)) (by decide)) (LC_7 (by decide)) (by decide)) (LC_6 (by decide)) (by decide)) (LC_7 (by decide)) (by decide)) (LC_6 (by decide)) (by decide)) (LC_7 (by decide)) (by decide)) LC_8 (by decide)) LC_4 (by decide)) LC_9 (by decide))) (fun b k z => rd_n hM57 (fun e => z (by unfold RO; omega)) (rd_n hM55 (fun e => z (by unfold RO; omega)) (rd_n hM53 (fun e => z (by unfold RO; omega)) (rd_n hM50 (fun e => z (by unfold RO; omega)) (rd_n hM48 (fun e => z (by unfold RO; omega)) (rd_n hM45 (fun e => z (by unfold RO; omega)) (rd_n hM43 (fun e => z (by unfold RO; omega)) (rd_n hM40 (fun e => z (by unfold RO; omega)) (rd_n hM38 (fun e => z (by unfold RO; omega)) (rd_n hM35 (fun e => z (by unfold RO; omega)) (rd_n hM33 (fun e => z (by unfold RO; omega)) (rd_n hM30 (fun e => z (by unfold RO; omega)) (rd_n hM28 (fun e => z (by unfold RO; omega)) (rd_n hM25 (fun e => z (by unfold RO; omega)) (rd_n hM23 (fun e => z (by unfold RO; omega)) (rd_n hM19 (fun e => z (by unfold RO; omega)) (rd_n hM17 (fun e => z (by unfold RO; omega)) (rd_n hM15 (fun e => z (by unfold RO; omega)) (rd_n hM13 (fun e => z (by unfold RO; omega)) (rd_n hM10 (fun e => z (by unfold RO; omega)) (rd_n hM8 (fun e => z (by unfold RO; omega)) (rd_n hM6 (fun e => z (by unfold RO; omega)) (rd_n hM4 (fun e => z (by unfold RO; omega)) (rfl))))))))))))))))))))))))
  · skip
    refine JJ_bipush (v := (-3)) dX12_back_8 rfl ?_
    refine JJ_iret dX12_back_10 rfl ?_
    have e0 : zr_back A = (-3, A) := if_pos c1
    exact zI_r (by rw [e0]) (by rw [e0]; exact hA) (fun _ _ _ => rfl)
end REF14
