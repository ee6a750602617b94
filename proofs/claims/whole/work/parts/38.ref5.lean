section REF5
variable {G : Gx} {sc : Nat → Nat → Prop} {n : Nat} {S : Nat → Nat × Nat} {M : Nat → Nat → Int32} {L : Nat → Nat → Int64} {P : Nat → Nat → Option Nat} {o : Nat}

set_option maxHeartbeats 4000000 in
set_option maxRecDepth 100000 in
theorem kr_rallyBad0 {s : Int32} (hSH : SHI o M) (hR : RWF o S P) (hN : HSR o sc) : KK G sc yX12_rallyBad cX12_rallyBad 3 (some .int) 3 0 0 [.ref o, .int s] (n, S, M, L, P) (ansI (r_rb o M s) (n, S, M, L, P)) := by
  refine KK_of2 [(0, .ref o), (1, .int s)] (by decide +kernel) (Nat.le_of_ble_eq_true rfl) rfl ?_
  refine JJ_iload_n dX12_rallyBad_0 rfl rfl ?_
  refine JJ_callS (rest := []) (kr_isSheet (v := s)) (by decide) mi_X12_isSheet lk_X12_309 rfl (Nat.le_of_ble_eq_true rfl) rfl rfl dX12_rallyBad_1 ?_
  intro v1 μ2 h3
  obtain ⟨rfl, rfl⟩ := h3
  refine JJ_r1 ?_
  refine JJ_if_ne (tgt := 10) dX12_rallyBad_4 (by decide) (fun c4 => ?_) (fun c4 => ?_)
  · skip
    obtain ⟨k, hk3, rfl⟩ := n_of (m := 3) (by decide) (b2_n.mp c4)
    obtain ⟨hS, cn, hcn, ecn⟩ := hSH
    have hS := hS k (by omega)
    refine JJ_aload_n dX12_rallyBad_10 rfl rfl ?_
    refine JJ_getr (q := o + 15) (cis := [12]) (k := 47) fa_X12_59 (by decide) hR.1 rfl (hR.2 (47, 15, 21, 4) (by decide)).1 dX12_rallyBad_11 ?_
    refine JJ_iload_n dX12_rallyBad_14 rfl rfl ?_
    refine JJ_zaldX (v := M (o + 15) k) (hR.2 (47, 15, 21, 4) (by decide)).2 (IX_nI (by omega) (by omega)) (hN.2.1 15 _ (by decide) (by decide)) rfl dX12_rallyBad_15 ?_
    refine JJ_if_ne (tgt := 22) dX12_rallyBad_16 (by decide) (fun c5 => ?_) (fun c5 => ?_)
    · skip
      obtain ⟨hth, N, hN40, eN⟩ := hS.resolve_left c5
      refine JJ_iconst (v := 0) dX12_rallyBad_22 rfl ?_
      refine JJ_istore_n (lv' := [(2, .int 0), (0, .ref o), (1, .int (nI k))]) dX12_rallyBad_23 rfl (by decide) rfl ?_
      have key : ∀ (d j : Nat), j + d = N → (∀ i, i < j → 0 ≤ (M (o + 18) (40 * k + i)).toInt ∧ (M (o + 18) (40 * k + i)).toInt < (M o 15).toInt) → JJ G sc yX12_rallyBad cX12_rallyBad 3 (some .int) 3 0 0 (ansI (r_rb o M (nI k)) (n, S, M, L, P)) 24 [(2, .int (nI j)), (0, .ref o), (1, .int (nI k))] [] (n, S, M, L, P) := by
        intro d
        induction d with
        | zero =>
          intro j hj hv
          refine JJ_iload_n dX12_rallyBad_24 rfl rfl ?_
          refine JJ_aload_n dX12_rallyBad_25 rfl rfl ?_
          refine JJ_getr (q := o + 17) (cis := [12]) (k := 49) fa_X12_66 (by decide) hR.1 rfl (hR.2 (49, 17, 20, 4) (by decide)).1 dX12_rallyBad_26 ?_
          refine JJ_iload_n dX12_rallyBad_29 rfl rfl ?_
          refine JJ_ialdX (v := nI N) (hR.2 (49, 17, 20, 4) (by decide)).2 (IX_nI (by omega) (by omega)) (hN.2.1 17 _ (by decide) (by decide)) eN dX12_rallyBad_30 ?_
          refine JJ_icmp_ge (tgt := 61) dX12_rallyBad_31 (by decide) (fun _ => ?_) (fun c6 => absurd (nI_le (by omega) (by omega)) c6)
          refine JJ_iconst (v := 0) dX12_rallyBad_61 rfl ?_
          refine JJ_iret dX12_rallyBad_62 rfl ?_
          exact ans_i (rb_3 (th := M (o + 15)) (sz := M (o + 17)) (im := fun s j => M (o + 18) (40 * s + j)) (cnt := M o 15) (by omega) c5 eN hN40 (fun i hi => hv i (by omega))).symm
        | succ d ih =>
          intro j hj hv
          refine JJ_iload_n dX12_rallyBad_24 rfl rfl ?_
          refine JJ_aload_n dX12_rallyBad_25 rfl rfl ?_
          refine JJ_getr (q := o + 17) (cis := [12]) (k := 49) fa_X12_66 (by decide) hR.1 rfl (hR.2 (49, 17, 20, 4) (by decide)).1 dX12_rallyBad_26 ?_
          refine JJ_iload_n dX12_rallyBad_29 rfl rfl ?_
          refine JJ_ialdX (v := nI N) (hR.2 (49, 17, 20, 4) (by decide)).2 (IX_nI (by omega) (by omega)) (hN.2.1 17 _ (by decide) (by decide)) eN dX12_rallyBad_30 ?_
          refine JJ_icmp_ge (tgt := 61) dX12_rallyBad_31 (by decide) (fun c7 => absurd c7 (nI_ge (by omega) (by omega))) (fun _ => ?_)
          refine JJ_aload_n dX12_rallyBad_34 rfl rfl ?_
          refine JJ_aload_n dX12_rallyBad_35 rfl rfl ?_
          refine JJ_getr (q := o + 18) (cis := [12]) (k := 50) fa_X12_69 (by decide) hR.1 rfl (hR.2 (50, 18, 20, 160) (by decide)).1 dX12_rallyBad_36 ?_
          refine JJ_bipush (v := 40) dX12_rallyBad_39 rfl ?_
          refine JJ_iload_n dX12_rallyBad_41 rfl rfl ?_
          refine JJ_imul dX12_rallyBad_42 ?_
          refine JJ_eqi (x2 := nI (40 * k)) (pk_mul (40) (k)) ?_
          refine JJ_iload_n dX12_rallyBad_43 rfl rfl ?_
          refine JJ_iadd dX12_rallyBad_44 ?_
          refine JJ_eqi (x2 := nI (40 * k + j)) (nI_add (40 * k) (j)) ?_
          refine JJ_ialdX (v := M (o + 18) (40 * k + j)) (hR.2 (50, 18, 20, 160) (by decide)).2 (IX_nI (by omega) (by omega)) (hN.2.1 18 _ (by decide) (by decide)) rfl dX12_rallyBad_45 ?_
          refine JJ_callV (rest := []) hR.1 rfl rfl (kr_isStroke (v := M (o + 18) (40 * k + j)) hR hN) (by decide) mi_X12_isStroke lk_X12_98 rfl (Nat.le_of_ble_eq_true rfl) rfl rfl dX12_rallyBad_46 ?_
          intro v8 μ9 h10
          obtain ⟨rfl, rfl⟩ := h10
          refine JJ_r1 ?_
          refine JJ_if_ne (tgt := 55) dX12_rallyBad_49 (by decide) (fun c11 => ?_) (fun c11 => ?_)
          · skip
            refine JJ_iinc (v := nI (j + 1)) (lv' := [(2, .int (nI (j + 1))), (0, .ref o), (1, .int (nI k))]) dX12_rallyBad_55 rfl (nI_add (j) 1) (by decide) rfl ?_
            refine JJ_goto (tgt := 24) dX12_rallyBad_58 (by decide) ?_
            refine JJ.pick [0, 1, 2] rfl ?_
            have hv1 := b2_n.mp c11
            rw [ecn, cm1 (by omega)] at hv1
            exact ih (j + 1) (by omega) (fun i hi => by
              rcases Nat.lt_or_ge i j with z | z
              · exact hv i z
              · obtain rfl : i = j := by omega
                rw [ecn, nI_toInt (by omega)]; exact ⟨hv1.1, by omega⟩)
          · skip
            refine JJ_bipush (v := (-2)) dX12_rallyBad_52 rfl ?_
            refine JJ_iret dX12_rallyBad_54 rfl ?_
            exact ans_i (rb_4 (th := M (o + 15)) (sz := M (o + 17)) (im := fun s j => M (o + 18) (40 * s + j)) (cnt := M o 15) (j := j) (by omega) c5 eN hN40 (by omega) (fun z => b2_0.mp c11 (by have z1 : 0 ≤ (M (o + 18) (40 * k + j)).toInt ∧ (M (o + 18) (40 * k + j)).toInt < (M o 15).toInt := z; rw [ecn, cm1 (by omega)]; rw [ecn, nI_toInt (by omega)] at z1; exact ⟨z1.1, by omega⟩))).symm
      refine JJ.pick [0, 1, 2] rfl ?_
      exact key N 0 (by omega) (fun i hi => absurd hi (Nat.not_lt_zero i))
    · skip
      refine JJ_bipush (v := (-11)) dX12_rallyBad_19 rfl ?_
      refine JJ_iret dX12_rallyBad_21 rfl ?_
      exact ans_i (rb_2 (th := M (o + 15)) (sz := M (o + 17)) (im := fun s j => M (o + 18) (40 * s + j)) (cnt := M o 15) (by omega) c5).symm
  · skip
    refine JJ_bipush (v := (-2)) dX12_rallyBad_7 rfl ?_
    refine JJ_iret dX12_rallyBad_9 rfl ?_
    exact ans_i (rb_1 (b2_0.mp c4)).symm
theorem kr_rallyBad {A : Abs} {s : Int32} (hA : rABS o M A) (hg : RNG A) (hR : RWF o S P) (hN : HSR o sc) : KK G sc yX12_rallyBad cX12_rallyBad 3 (some .int) 3 0 0 [.ref o, .int s] (n, S, M, L, P) (ansI (z_rb A s) (n, S, M, L, P)) := by
  rw [← hA.rb hg]
  exact kr_rallyBad0 (hA.shi hg) hR hN
set_option maxHeartbeats 4000000 in
set_option maxRecDepth 100000 in
theorem kr_rally {s what : Int32} {A : Abs} (hA : rABS o M A) (hg : RNG A) (hR : RWF o S P) (hN : HSR o sc) : KK G sc yX12_rally cX12_rally 5 (some .int) 64 0 0 [.ref o, .int s, .int what] (n, S, M, L, P) (qI o n S M P (zr_rally A s what)) := by
  refine KK_of2 [(0, .ref o), (1, .int s), (2, .int what)] (by decide +kernel) (Nat.le_of_ble_eq_true rfl) rfl ?_
  refine JJ_iload_n dX12_rally_0 rfl rfl ?_
  refine JJ_callS (rest := []) (kr_isSheet (v := s)) (by decide) mi_X12_isSheet lk_X12_309 rfl (Nat.le_of_ble_eq_true rfl) rfl rfl dX12_rally_1 ?_
  intro v1 μ2 h3
  obtain ⟨rfl, rfl⟩ := h3
  refine JJ_r1 ?_
  refine JJ_if_eq (tgt := 19) dX12_rally_4 (by decide) (fun c4 => ?_) (fun c4 => ?_)
  · skip
    refine JJ_bipush (v := (-2)) dX12_rally_19 rfl ?_
    refine JJ_iret dX12_rally_21 rfl ?_
    exact qI_r (if_pos (fun z => b2_0.mp c4 z.1)).symm (fun _ _ _ => rfl)
  · skip
    refine JJ_iload_n dX12_rally_7 rfl rfl ?_
    refine JJ_i2l dX12_rally_8 ?_
    refine JJ_lconst (v := 0) dX12_rally_9 rfl ?_
    refine JJ_ldc2 (v := 6) dX12_rally_10 tb_1091 ?_
    refine JJ_callS (rest := []) (kr_in32 (v := what) (lo := 0) (hi := 6) (a := 0) (b := 6) rfl rfl) (by decide) mi_X12_in lk_X12_82 rfl (Nat.le_of_ble_eq_true rfl) rfl rfl dX12_rally_13 ?_
    intro v5 μ6 h7
    obtain ⟨rfl, rfl⟩ := h7
    refine JJ_r1 ?_
    refine JJ_if_ne (tgt := 22) dX12_rally_16 (by decide) (fun c8 => ?_) (fun c8 => ?_)
    · skip
      refine JJ_aload_n dX12_rally_22 rfl rfl ?_
      refine JJ_iload_n dX12_rally_23 rfl rfl ?_
      refine JJ_callV (rest := []) hR.1 rfl rfl (kr_rallyBad (A := A) (s := s) hA hg hR hN) (by decide) mi_X12_rallyBad lk_X12_312 rfl (Nat.le_of_ble_eq_true rfl) rfl rfl dX12_rally_24 ?_
      intro v9 μ10 h11
      obtain ⟨rfl, rfl⟩ := h11
      refine JJ_r1 ?_
      refine JJ_istore_n (lv' := [(3, .int (z_rb A s)), (0, .ref o), (1, .int s), (2, .int what)]) dX12_rally_27 rfl (by decide) rfl ?_
      refine JJ_iload_n dX12_rally_28 rfl rfl ?_
      refine JJ_if_eq (tgt := 34) dX12_rally_29 (by decide) (fun c12 => ?_) (fun c12 => ?_)
      · skip
        have hrb := c12
        obtain ⟨k, N, rfl, hr⟩ := rb_rly (hA.shi hg) ((hA.rb hg _).trans hrb)
        have hk4 := hr.1
        obtain ⟨q, hq6, rfl⟩ := n_of (m := 6) (by decide) (b2_n.mp c8)
        refine JJ_aload_n dX12_rally_34 rfl rfl ?_
        refine JJ_callV (rest := []) hR.1 rfl rfl (kr_layAside (a := 0) hA.as (by decide) hR hN) (by decide) mi_X12_layAside lk_X12_315 rfl (Nat.le_of_ble_eq_true rfl) rfl rfl dX12_rally_35 ?_
        intro v13 μ14 h15
        obtain ⟨rfl, Ma, rfl, hla⟩ := h15
        refine JJ_r0 ?_
        have hrA : RLY o Ma k N := ⟨hr.1, hr.2.1, by rw [laid_k hla (t := 17) (by decide) (by decide)]; exact hr.2.2.1, by rw [laid_k hla (t := 18) (by decide) (by decide)]; exact hr.2.2.2⟩
        have hcA : CVR o Ma := by unfold CVR; rw [laid_k hla (t := 4) (by decide) (by decide), laid_k hla (t := 7) (by decide) (by decide), laid_k hla (t := 10) (by decide) (by decide)]; exact hA.cvr hg
        have heA : RTX o Ma (zE A) := (hA.rtx hg).keep (laid_k hla (t := 1) (by decide) (by decide)) (laid_k hla (t := 2) (by decide) (by decide)) (hla.2.2.2.2 o 4 (by omega) (by omega))
        refine JJ_aload_n dX12_rally_38 rfl rfl ?_
        refine JJ_iload_n dX12_rally_39 rfl rfl ?_
        refine JJ_callV (rest := []) hR.1 rfl rfl (kr_rallies (E := zE A) (s := k) (N := N) hrA hcA hR hN heA) (by decide) mi_X12_rallies lk_X12_318 rfl (Nat.le_of_ble_eq_true rfl) rfl rfl dX12_rally_40 ?_
        intro v16 μ17 h18
        obtain ⟨rfl, Mb, Lb, rfl, hin⟩ := h18
        refine JJ_r0 ?_
        obtain ⟨ist, i34, i35, i36, i37, ibl⟩ := ral_A hA hr (laid_a hla) (hla.2.2.2.2 o 11 (by omega) (by omega)) rfl hin
        have hq7 : q < 7 := by omega
        refine JJ_iload_n dX12_rally_43 rfl rfl ?_
        refine JJ_if_ne (tgt := 54) dX12_rally_44 (by decide) (fun c19 => ?_) (fun c19 => ?_)
        · skip
          refine JJ_iload_n dX12_rally_54 rfl rfl ?_
          refine JJ_iconst (v := 1) dX12_rally_55 rfl ?_
          refine JJ_icmp_ne (tgt := 66) dX12_rally_56 (by decide) (fun c20 => ?_) (fun c20 => ?_)
          · skip
            refine JJ_iload_n dX12_rally_66 rfl rfl ?_
            refine JJ_iconst (v := 4) dX12_rally_67 rfl ?_
            refine JJ_icmp_ge (tgt := 82) dX12_rally_68 (by decide) (fun c21 => ?_) (fun c21 => ?_)
            · skip
              refine JJ_iload_n dX12_rally_82 rfl rfl ?_
              refine JJ_bipush (v := 6) dX12_rally_83 rfl ?_
              refine JJ_icmp_ge (tgt := 99) dX12_rally_85 (by decide) (fun c22 => ?_) (fun c22 => ?_)
              · skip
                refine JJ_aload_n dX12_rally_99 rfl rfl ?_
                refine JJ_geti (v := Mb o 11) (cis := [12]) (k := 11) fa_X12_109 (by decide) hR.1 rfl (hN.1 11 (by decide)) rfl dX12_rally_100 ?_
                refine JJ_istore (lv' := [(4, .int (Mb o 11)), (3, .int (z_rb A (nI k))), (0, .ref o), (1, .int (nI k)), (2, .int (nI q))]) dX12_rally_103 (by decide) rfl ?_
                refine JJ_aload_n dX12_rally_105 rfl rfl ?_
                refine JJ_callV (rest := []) hR.1 rfl rfl (kr_takeBack (a := 0) (lr33 hla hin) (by decide) hR hN) (by decide) mi_X12_takeBack lk_X12_322 rfl (Nat.le_of_ble_eq_true rfl) rfl rfl dX12_rally_106 ?_
                intro v23 μ24 h25
                obtain ⟨rfl, Mc, rfl, htk⟩ := h25
                refine JJ_r0 ?_
                have hfr := lrt hla hin htk hA.as
                refine JJ_iload dX12_rally_109 rfl ?_
                refine JJ_iret dX12_rally_111 rfl ?_
                have q0 : q ≠ 0 := fun e => c19 (by rw [e]; rfl)
                have q1 : q ≠ 1 := fun e => c20 (by rw [e]; rfl)
                have q4 : 4 ≤ q := (nI_leI (a := 4) (b := q) (by omega) (by omega)).mp c21
                have q6 : 6 ≤ q := (nI_leI (a := 6) (b := q) (by omega) (by omega)).mp c22
                have e0 : zr_rally A (nI k) (nI q) = s_what (z_fin A k) (z_st A k (z_fin A k).1) q := by
                  unfold zr_rally
                  rw [if_neg (fun z => z ⟨b2_n.mp c4, b2_n.mp c8⟩), if_pos hrb, show i2n (nI k) = k from nI_clamp (by omega), show i2n (nI q) = q from nI_clamp (by omega)]
                rw [e0]
                unfold s_what
                exact qI_r (by rw [if_neg (by omega), if_neg (by omega), if_neg (by omega), if_neg (by omega), ← ist]; rfl) hfr
              · skip
                refine JJ_aload_n dX12_rally_88 rfl rfl ?_
                refine JJ_getr (q := o + 4) (cis := [12]) (k := 7) fa_X12_23 (by decide) hR.1 rfl (hR.2 (7, 4, 20, 2) (by decide)).1 dX12_rally_89 ?_
                refine JJ_iload_n dX12_rally_92 rfl rfl ?_
                refine JJ_iconst (v := 4) dX12_rally_93 rfl ?_
                refine JJ_isub dX12_rally_94 ?_
                refine JJ_eqi (x2 := nI (q - 4)) (pk_sub (a := q) (b := 4) (by have q0 : q ≠ 0 := fun e => c19 (by rw [e]; rfl); have q1 : q ≠ 1 := fun e => c20 (by rw [e]; rfl); have q4 : 4 ≤ q := (nI_leI (a := 4) (b := q) (by omega) (by omega)).mp c21; have q6 : ¬ 6 ≤ q := fun z => c22 ((nI_leI (a := 6) (b := q) (by omega) (by omega)).mpr z); omega)) ?_
                refine JJ_ialdX (v := Mb (o + 4) (q - 4)) (hR.2 (7, 4, 20, 2) (by decide)).2 (IX_nI (by have q0 : q ≠ 0 := fun e => c19 (by rw [e]; rfl); have q1 : q ≠ 1 := fun e => c20 (by rw [e]; rfl); have q4 : 4 ≤ q := (nI_leI (a := 4) (b := q) (by omega) (by omega)).mp c21; have q6 : ¬ 6 ≤ q := fun z => c22 ((nI_leI (a := 6) (b := q) (by omega) (by omega)).mpr z); omega) (by omega)) (hN.2.1 4 _ (by decide) (by decide)) rfl dX12_rally_95 ?_
                refine JJ_goto (tgt := 103) dX12_rally_96 (by decide) ?_
                refine JJ_istore (lv' := [(4, .int (Mb (o + 4) (q - 4))), (3, .int (z_rb A (nI k))), (0, .ref o), (1, .int (nI k)), (2, .int (nI q))]) dX12_rally_103 (by decide) rfl ?_
                refine JJ_aload_n dX12_rally_105 rfl rfl ?_
                refine JJ_callV (rest := []) hR.1 rfl rfl (kr_takeBack (a := 0) (lr33 hla hin) (by decide) hR hN) (by decide) mi_X12_takeBack lk_X12_322 rfl (Nat.le_of_ble_eq_true rfl) rfl rfl dX12_rally_106 ?_
                intro v26 μ27 h28
                obtain ⟨rfl, Mc, rfl, htk⟩ := h28
                refine JJ_r0 ?_
                have hfr := lrt hla hin htk hA.as
                refine JJ_iload dX12_rally_109 rfl ?_
                refine JJ_iret dX12_rally_111 rfl ?_
                have q0 : q ≠ 0 := fun e => c19 (by rw [e]; rfl)
                have q1 : q ≠ 1 := fun e => c20 (by rw [e]; rfl)
                have q4 : 4 ≤ q := (nI_leI (a := 4) (b := q) (by omega) (by omega)).mp c21
                have q6 : ¬ 6 ≤ q := fun z => c22 ((nI_leI (a := 6) (b := q) (by omega) (by omega)).mpr z)
                have e0 : zr_rally A (nI k) (nI q) = s_what (z_fin A k) (z_st A k (z_fin A k).1) q := by
                  unfold zr_rally
                  rw [if_neg (fun z => z ⟨b2_n.mp c4, b2_n.mp c8⟩), if_pos hrb, show i2n (nI k) = k from nI_clamp (by omega), show i2n (nI q) = q from nI_clamp (by omega)]
                rw [e0]
                unfold s_what
                exact qI_r (by rw [if_neg (by omega), if_neg (by omega), if_neg (by omega), if_pos (by omega), ← ist, rg0 (by omega)]) hfr
            · skip
              refine JJ_aload_n dX12_rally_71 rfl rfl ?_
              refine JJ_getr (q := o + 5) (cis := [12]) (k := 8) fa_X12_26 (by decide) hR.1 rfl (hR.2 (8, 5, 20, 2) (by decide)).1 dX12_rally_72 ?_
              refine JJ_iload_n dX12_rally_75 rfl rfl ?_
              refine JJ_iconst (v := 2) dX12_rally_76 rfl ?_
              refine JJ_isub dX12_rally_77 ?_
              refine JJ_eqi (x2 := nI (q - 2)) (pk_sub (a := q) (b := 2) (by have q0 : q ≠ 0 := fun e => c19 (by rw [e]; rfl); have q1 : q ≠ 1 := fun e => c20 (by rw [e]; rfl); have q4 : ¬ 4 ≤ q := fun z => c21 ((nI_leI (a := 4) (b := q) (by omega) (by omega)).mpr z); omega)) ?_
              refine JJ_ialdX (v := Mb (o + 5) (q - 2)) (hR.2 (8, 5, 20, 2) (by decide)).2 (IX_nI (by have q0 : q ≠ 0 := fun e => c19 (by rw [e]; rfl); have q1 : q ≠ 1 := fun e => c20 (by rw [e]; rfl); have q4 : ¬ 4 ≤ q := fun z => c21 ((nI_leI (a := 4) (b := q) (by omega) (by omega)).mpr z); omega) (by omega)) (hN.2.1 5 _ (by decide) (by decide)) rfl dX12_rally_78 ?_
              refine JJ_goto (tgt := 103) dX12_rally_79 (by decide) ?_
              refine JJ_istore (lv' := [(4, .int (Mb (o + 5) (q - 2))), (3, .int (z_rb A (nI k))), (0, .ref o), (1, .int (nI k)), (2, .int (nI q))]) dX12_rally_103 (by decide) rfl ?_
              refine JJ_aload_n dX12_rally_105 rfl rfl ?_
              refine JJ_callV (rest := []) hR.1 rfl rfl (kr_takeBack (a := 0) (lr33 hla hin) (by decide) hR hN) (by decide) mi_X12_takeBack lk_X12_322 rfl (Nat.le_of_ble_eq_true rfl) rfl rfl dX12_rally_106 ?_
              intro v29 μ30 h31
              obtain ⟨rfl, Mc, rfl, htk⟩ := h31
              refine JJ_r0 ?_
              have hfr := lrt hla hin htk hA.as
              refine JJ_iload dX12_rally_109 rfl ?_
              refine JJ_iret dX12_rally_111 rfl ?_
              have q0 : q ≠ 0 := fun e => c19 (by rw [e]; rfl)
              have q1 : q ≠ 1 := fun e => c20 (by rw [e]; rfl)
              have q4 : ¬ 4 ≤ q := fun z => c21 ((nI_leI (a := 4) (b := q) (by omega) (by omega)).mpr z)
              have e0 : zr_rally A (nI k) (nI q) = s_what (z_fin A k) (z_st A k (z_fin A k).1) q := by
                unfold zr_rally
                rw [if_neg (fun z => z ⟨b2_n.mp c4, b2_n.mp c8⟩), if_pos hrb, show i2n (nI k) = k from nI_clamp (by omega), show i2n (nI q) = q from nI_clamp (by omega)]
              rw [e0]
              unfold s_what
              exact qI_r (by rw [if_neg (by omega), if_neg (by omega), if_pos (by omega), ← ist, show q = 2 + (q - 2) by omega, rg1 (by omega), show 2 + (q - 2) - 2 = q - 2 by omega]) hfr
          · skip
            refine JJ_aload_n dX12_rally_59 rfl rfl ?_
            refine JJ_geti (v := nI (z_fin A k).1) (cis := [12]) (k := 35) fa_X12_289 (by decide) hR.1 rfl (hN.1 35 (by decide)) i35 dX12_rally_60 ?_
            refine JJ_goto (tgt := 103) dX12_rally_63 (by decide) ?_
            refine JJ_istore (lv' := [(4, .int (nI (z_fin A k).1)), (3, .int (z_rb A (nI k))), (0, .ref o), (1, .int (nI k)), (2, .int (nI q))]) dX12_rally_103 (by decide) rfl ?_
            refine JJ_aload_n dX12_rally_105 rfl rfl ?_
            refine JJ_callV (rest := []) hR.1 rfl rfl (kr_takeBack (a := 0) (lr33 hla hin) (by decide) hR hN) (by decide) mi_X12_takeBack lk_X12_322 rfl (Nat.le_of_ble_eq_true rfl) rfl rfl dX12_rally_106 ?_
            intro v32 μ33 h34
            obtain ⟨rfl, Mc, rfl, htk⟩ := h34
            refine JJ_r0 ?_
            have hfr := lrt hla hin htk hA.as
            refine JJ_iload dX12_rally_109 rfl ?_
            refine JJ_iret dX12_rally_111 rfl ?_
            have q0 : q ≠ 0 := fun e => c19 (by rw [e]; rfl)
            have q1 := 0
            have e0 : zr_rally A (nI k) (nI q) = s_what (z_fin A k) (z_st A k (z_fin A k).1) q := by
              unfold zr_rally
              rw [if_neg (fun z => z ⟨b2_n.mp c4, b2_n.mp c8⟩), if_pos hrb, show i2n (nI k) = k from nI_clamp (by omega), show i2n (nI q) = q from nI_clamp (by omega)]
            rw [e0]
            unfold s_what
            exact qI_r (by rw [show q = 1 from nI_inj (by omega) (by omega) c20]; rfl) hfr
        · skip
          refine JJ_aload_n dX12_rally_47 rfl rfl ?_
          refine JJ_geti (v := sr_wins (z_fin A k)) (cis := [12]) (k := 34) fa_X12_286 (by decide) hR.1 rfl (hN.1 34 (by decide)) i34 dX12_rally_48 ?_
          refine JJ_goto (tgt := 103) dX12_rally_51 (by decide) ?_
          refine JJ_istore (lv' := [(4, .int (sr_wins (z_fin A k))), (3, .int (z_rb A (nI k))), (0, .ref o), (1, .int (nI k)), (2, .int (nI q))]) dX12_rally_103 (by decide) rfl ?_
          refine JJ_aload_n dX12_rally_105 rfl rfl ?_
          refine JJ_callV (rest := []) hR.1 rfl rfl (kr_takeBack (a := 0) (lr33 hla hin) (by decide) hR hN) (by decide) mi_X12_takeBack lk_X12_322 rfl (Nat.le_of_ble_eq_true rfl) rfl rfl dX12_rally_106 ?_
          intro v35 μ36 h37
          obtain ⟨rfl, Mc, rfl, htk⟩ := h37
          refine JJ_r0 ?_
          have hfr := lrt hla hin htk hA.as
          refine JJ_iload dX12_rally_109 rfl ?_
          refine JJ_iret dX12_rally_111 rfl ?_
          have q0 := 0
          have e0 : zr_rally A (nI k) (nI q) = s_what (z_fin A k) (z_st A k (z_fin A k).1) q := by
            unfold zr_rally
            rw [if_neg (fun z => z ⟨b2_n.mp c4, b2_n.mp c8⟩), if_pos hrb, show i2n (nI k) = k from nI_clamp (by omega), show i2n (nI q) = q from nI_clamp (by omega)]
          rw [e0]
          unfold s_what
          exact qI_r (by rw [show q = 0 from nI_inj (by omega) (by omega) c19]; rfl) hfr
      · skip
        refine JJ_iload_n dX12_rally_32 rfl rfl ?_
        refine JJ_iret dX12_rally_33 rfl ?_
        exact qI_r (((if_neg (fun z => z ⟨b2_n.mp c4, b2_n.mp c8⟩)).trans (if_neg c12)).symm) (fun _ _ _ => rfl)
    · skip
      refine JJ_bipush (v := (-2)) dX12_rally_19 rfl ?_
      refine JJ_iret dX12_rally_21 rfl ?_
      exact qI_r (if_pos (fun z => b2_0.mp c8 z.2)).symm (fun _ _ _ => rfl)
set_option maxHeartbeats 4000000 in
set_option maxRecDepth 100000 in
theorem kr_likely {s : Int32} {A : Abs} (hA : rABS o M A) (hg : RNG A) (hR : RWF o S P) (hN : HSR o sc) : KK G sc yX12_likely cX12_likely 2 (some .long) 64 0 0 [.ref o, .int s] (n, S, M, L, P) (qL o n S M P (zr_likely A s)) := by
  refine KK_of2 [(0, .ref o), (1, .int s)] (by decide +kernel) (Nat.le_of_ble_eq_true rfl) rfl ?_
  refine JJ_aload_n dX12_likely_0 rfl rfl ?_
  refine JJ_iload_n dX12_likely_1 rfl rfl ?_
  refine JJ_callV (rest := []) hR.1 rfl rfl (kr_rallyBad (A := A) (s := s) hA hg hR hN) (by decide) mi_X12_rallyBad lk_X12_312 rfl (Nat.le_of_ble_eq_true rfl) rfl rfl dX12_likely_2 ?_
  intro v1 μ2 h3
  obtain ⟨rfl, rfl⟩ := h3
  refine JJ_r1 ?_
  refine JJ_if_eq (tgt := 12) dX12_likely_5 (by decide) (fun c4 => ?_) (fun c4 => ?_)
  · skip
    have hrb := c4
    obtain ⟨k, N, rfl, hr⟩ := rb_rly (hA.shi hg) ((hA.rb hg _).trans hrb)
    have hk4 := hr.1
    refine JJ_aload_n dX12_likely_12 rfl rfl ?_
    refine JJ_callV (rest := []) hR.1 rfl rfl (kr_layAside (a := 0) hA.as (by decide) hR hN) (by decide) mi_X12_layAside lk_X12_315 rfl (Nat.le_of_ble_eq_true rfl) rfl rfl dX12_likely_13 ?_
    intro v5 μ6 h7
    obtain ⟨rfl, Ma, rfl, hla⟩ := h7
    refine JJ_r0 ?_
    have hrA : RLY o Ma k N := ⟨hr.1, hr.2.1, by rw [laid_k hla (t := 17) (by decide) (by decide)]; exact hr.2.2.1, by rw [laid_k hla (t := 18) (by decide) (by decide)]; exact hr.2.2.2⟩
    have hcA : CVR o Ma := by unfold CVR; rw [laid_k hla (t := 4) (by decide) (by decide), laid_k hla (t := 7) (by decide) (by decide), laid_k hla (t := 10) (by decide) (by decide)]; exact hA.cvr hg
    have heA : RTX o Ma (zE A) := (hA.rtx hg).keep (laid_k hla (t := 1) (by decide) (by decide)) (laid_k hla (t := 2) (by decide) (by decide)) (hla.2.2.2.2 o 4 (by omega) (by omega))
    refine JJ_aload_n dX12_likely_16 rfl rfl ?_
    refine JJ_iload_n dX12_likely_17 rfl rfl ?_
    refine JJ_callV (rest := []) hR.1 rfl rfl (kr_rallies (E := zE A) (s := k) (N := N) hrA hcA hR hN heA) (by decide) mi_X12_rallies lk_X12_318 rfl (Nat.le_of_ble_eq_true rfl) rfl rfl dX12_likely_18 ?_
    intro v8 μ9 h10
    obtain ⟨rfl, Mb, Lb, rfl, hin⟩ := h10
    refine JJ_r0 ?_
    obtain ⟨ist, i34, i35, i36, i37, ibl⟩ := ral_A hA hr (laid_a hla) (hla.2.2.2.2 o 11 (by omega) (by omega)) rfl hin
    refine JJ_aload_n dX12_likely_21 rfl rfl ?_
    refine JJ_callV (rest := []) hR.1 rfl rfl (kr_takeBack (a := 0) (lr33 hla hin) (by decide) hR hN) (by decide) mi_X12_takeBack lk_X12_322 rfl (Nat.le_of_ble_eq_true rfl) rfl rfl dX12_likely_22 ?_
    intro v11 μ12 h13
    obtain ⟨rfl, Mc, rfl, htk⟩ := h13
    refine JJ_r0 ?_
    have hfr := lrt hla hin htk hA.as
    refine JJ_aload_n dX12_likely_25 rfl rfl ?_
    refine JJ_getl (v := z_lk A k (z_fin A k).1) (cis := [12]) (k := 36) fa_X12_294 (by decide) hR.1 rfl (hN.1 36 (by decide)) i36 dX12_likely_26 ?_
    refine JJ_lret dX12_likely_29 rfl ?_
    exact qL_r ((if_pos hrb).trans (by rw [show i2n (nI k) = k from nI_clamp (by omega)])).symm hfr
  · skip
    refine JJ_ldc2 (v := (-4611686018427387904)) dX12_likely_8 tb_1295 ?_
    refine JJ_lret dX12_likely_11 rfl ?_
    exact qL_r (if_neg c4).symm (fun _ _ _ => rfl)
set_option maxHeartbeats 4000000 in
set_option maxRecDepth 100000 in
theorem kr_inTheWay {s : Int32} {A : Abs} (hA : rABS o M A) (hg : RNG A) (hR : RWF o S P) (hN : HSR o sc) : KK G sc yX12_inTheWay cX12_inTheWay 3 (some .int) 64 0 0 [.ref o, .int s] (n, S, M, L, P) (qI o n S M P (zr_way A s)) := by
  refine KK_of2 [(0, .ref o), (1, .int s)] (by decide +kernel) (Nat.le_of_ble_eq_true rfl) rfl ?_
  refine JJ_aload_n dX12_inTheWay_0 rfl rfl ?_
  refine JJ_iload_n dX12_inTheWay_1 rfl rfl ?_
  refine JJ_callV (rest := []) hR.1 rfl rfl (kr_rallyBad (A := A) (s := s) hA hg hR hN) (by decide) mi_X12_rallyBad lk_X12_312 rfl (Nat.le_of_ble_eq_true rfl) rfl rfl dX12_inTheWay_2 ?_
  intro v1 μ2 h3
  obtain ⟨rfl, rfl⟩ := h3
  refine JJ_r1 ?_
  refine JJ_istore_n (lv' := [(2, .int (z_rb A s)), (0, .ref o), (1, .int s)]) dX12_inTheWay_5 rfl (by decide) rfl ?_
  refine JJ_iload_n dX12_inTheWay_6 rfl rfl ?_
  refine JJ_if_eq (tgt := 12) dX12_inTheWay_7 (by decide) (fun c4 => ?_) (fun c4 => ?_)
  · skip
    have hrb := c4
    obtain ⟨k, N, rfl, hr⟩ := rb_rly (hA.shi hg) ((hA.rb hg _).trans hrb)
    have hk4 := hr.1
    refine JJ_aload_n dX12_inTheWay_12 rfl rfl ?_
    refine JJ_callV (rest := []) hR.1 rfl rfl (kr_layAside (a := 0) hA.as (by decide) hR hN) (by decide) mi_X12_layAside lk_X12_315 rfl (Nat.le_of_ble_eq_true rfl) rfl rfl dX12_inTheWay_13 ?_
    intro v5 μ6 h7
    obtain ⟨rfl, Ma, rfl, hla⟩ := h7
    refine JJ_r0 ?_
    have hrA : RLY o Ma k N := ⟨hr.1, hr.2.1, by rw [laid_k hla (t := 17) (by decide) (by decide)]; exact hr.2.2.1, by rw [laid_k hla (t := 18) (by decide) (by decide)]; exact hr.2.2.2⟩
    have hcA : CVR o Ma := by unfold CVR; rw [laid_k hla (t := 4) (by decide) (by decide), laid_k hla (t := 7) (by decide) (by decide), laid_k hla (t := 10) (by decide) (by decide)]; exact hA.cvr hg
    have heA : RTX o Ma (zE A) := (hA.rtx hg).keep (laid_k hla (t := 1) (by decide) (by decide)) (laid_k hla (t := 2) (by decide) (by decide)) (hla.2.2.2.2 o 4 (by omega) (by omega))
    refine JJ_aload_n dX12_inTheWay_16 rfl rfl ?_
    refine JJ_iload_n dX12_inTheWay_17 rfl rfl ?_
    refine JJ_callV (rest := []) hR.1 rfl rfl (kr_rallies (E := zE A) (s := k) (N := N) hrA hcA hR hN heA) (by decide) mi_X12_rallies lk_X12_318 rfl (Nat.le_of_ble_eq_true rfl) rfl rfl dX12_inTheWay_18 ?_
    intro v8 μ9 h10
    obtain ⟨rfl, Mb, Lb, rfl, hin⟩ := h10
    refine JJ_r0 ?_
    obtain ⟨ist, i34, i35, i36, i37, ibl⟩ := ral_A hA hr (laid_a hla) (hla.2.2.2.2 o 11 (by omega) (by omega)) rfl hin
    refine JJ_aload_n dX12_inTheWay_21 rfl rfl ?_
    refine JJ_callV (rest := []) hR.1 rfl rfl (kr_takeBack (a := 0) (lr33 hla hin) (by decide) hR hN) (by decide) mi_X12_takeBack lk_X12_322 rfl (Nat.le_of_ble_eq_true rfl) rfl rfl dX12_inTheWay_22 ?_
    intro v11 μ12 h13
    obtain ⟨rfl, Mc, rfl, htk⟩ := h13
    refine JJ_r0 ?_
    have hfr := lrt hla hin htk hA.as
    refine JJ_aload_n dX12_inTheWay_25 rfl rfl ?_
    refine JJ_geti (v := z_way A k (z_fin A k).1) (cis := [12]) (k := 37) fa_X12_297 (by decide) hR.1 rfl (hN.1 37 (by decide)) ((htk.2.2.2.2 _ _ (by omega) (by omega) (by omega)).trans i37) dX12_inTheWay_26 ?_
    refine JJ_iret dX12_inTheWay_29 rfl ?_
    exact qI_r ((if_pos hrb).trans (by rw [show i2n (nI k) = k from nI_clamp (by omega)])).symm hfr
  · skip
    refine JJ_iload_n dX12_inTheWay_10 rfl rfl ?_
    refine JJ_iret dX12_inTheWay_11 rfl ?_
    exact qI_r (if_neg c4).symm (fun _ _ _ => rfl)
end REF5
