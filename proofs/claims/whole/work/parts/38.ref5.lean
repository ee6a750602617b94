section REF5
variable {G : Gx} {sc : Nat → Nat → Prop} {n : Nat} {S : Nat → Nat × Nat} {M : Nat → Nat → Int32} {L : Nat → Nat → Int64} {P : Nat → Nat → Option Nat} {o : Nat}

set_option maxHeartbeats 4000000 in
set_option maxRecDepth 100000 in
theorem kr_rallyBad0 {s : Int32} (hSH : SHI o M) (hR : RWF o S P) (hN : HSR o sc) : KK G sc yX12_rallyBad cX12_rallyBad 3 (some .int) 3 0 0 [.ref o, .int s] (n, S, M, L, P) (ansI (r_rb o M s) (n, S, M, L, P)) := by
  refine KK_of2 [(0, .ref o), (1, .int s)] (by decide +kernel) (Nat.le_of_ble_eq_true rfl) rfl ?_
  refine JJ_iload_n dX12_rallyBad_0 rfl rfl ?_
  refine JJ_callS (rest := []) (kr_isSheet (v := s)) (by decide) mi_X12_isSheet lk_X12_309 rfl (Nat.le_of_ble_eq_true rfl) rfl rfl dX12_rallyBad_1 ?_
  intro v1 μ2 h3
  obtain ⟨rfl, rfl⟩ := h3
  refine JJ_r1 ?_
  refine JJ_if_ne (tgt := 10) dX12_rallyBad_4 (by decide) (fun c4 => ?_) (fun c4 => ?_)
  · skip
    obtain ⟨k, hk3, rfl⟩ := n_of (m := 3) (by decide) (b2_n.mp c4)
    obtain ⟨hS, cn, hcn, ecn⟩ := hSH
    have hS := hS k (by omega)
    refine JJ_aload_n dX12_rallyBad_10 rfl rfl ?_
    refine JJ_getr (q := o + 15) (cis := [12]) (k := 47) fa_X12_59 (by decide) hR.1 rfl (hR.2 (47, 15, 21, 4) (by decide)).1 dX12_rallyBad_11 ?_
    refine JJ_iload_n dX12_rallyBad_14 rfl rfl ?_
    refine JJ_zaldX (v := M (o + 15) k) (hR.2 (47, 15, 21, 4) (by decide)).2 (IX_nI (by omega) (by omega)) (hN.2 15 _ (by decide) (by decide)) rfl dX12_rallyBad_15 ?_
    refine JJ_if_ne (tgt := 22) dX12_rallyBad_16 (by decide) (fun c5 => ?_) (fun c5 => ?_)
    · skip
      obtain ⟨hth, N, hN40, eN⟩ := hS.resolve_left c5
      refine JJ_iconst (v := 0) dX12_rallyBad_22 rfl ?_
      refine JJ_istore_n (lv' := [(2, .int 0), (0, .ref o), (1, .int (nI k))]) dX12_rallyBad_23 rfl (by decide) rfl ?_
      have key : ∀ (d j : Nat), j + d = N → (∀ i, i < j → 0 ≤ (M (o + 18) (40 * k + i)).toInt ∧ (M (o + 18) (40 * k + i)).toInt < (M o 15).toInt) → JJ G sc yX12_rallyBad cX12_rallyBad 3 (some .int) 3 0 0 (ansI (r_rb o M (nI k)) (n, S, M, L, P)) 24 [(2, .int (nI j)), (0, .ref o), (1, .int (nI k))] [] (n, S, M, L, P) := by
        intro d
        induction d with
        | zero =>
          intro j hj hv
          refine JJ_iload_n dX12_rallyBad_24 rfl rfl ?_
          refine JJ_aload_n dX12_rallyBad_25 rfl rfl ?_
          refine JJ_getr (q := o + 17) (cis := [12]) (k := 49) fa_X12_66 (by decide) hR.1 rfl (hR.2 (49, 17, 20, 4) (by decide)).1 dX12_rallyBad_26 ?_
          refine JJ_iload_n dX12_rallyBad_29 rfl rfl ?_
          refine JJ_ialdX (v := nI N) (hR.2 (49, 17, 20, 4) (by decide)).2 (IX_nI (by omega) (by omega)) (hN.2 17 _ (by decide) (by decide)) eN dX12_rallyBad_30 ?_
          refine JJ_icmp_ge (tgt := 61) dX12_rallyBad_31 (by decide) (fun _ => ?_) (fun c6 => absurd (nI_le (by omega) (by omega)) c6)
          refine JJ_iconst (v := 0) dX12_rallyBad_61 rfl ?_
          refine JJ_iret dX12_rallyBad_62 rfl ?_
          exact ans_i (rb_3 (th := M (o + 15)) (sz := M (o + 17)) (im := fun s j => M (o + 18) (40 * s + j)) (cnt := M o 15) (by omega) c5 eN hN40 (fun i hi => hv i (by omega))).symm
        | succ d ih =>
          intro j hj hv
          refine JJ_iload_n dX12_rallyBad_24 rfl rfl ?_
          refine JJ_aload_n dX12_rallyBad_25 rfl rfl ?_
          refine JJ_getr (q := o + 17) (cis := [12]) (k := 49) fa_X12_66 (by decide) hR.1 rfl (hR.2 (49, 17, 20, 4) (by decide)).1 dX12_rallyBad_26 ?_
          refine JJ_iload_n dX12_rallyBad_29 rfl rfl ?_
          refine JJ_ialdX (v := nI N) (hR.2 (49, 17, 20, 4) (by decide)).2 (IX_nI (by omega) (by omega)) (hN.2 17 _ (by decide) (by decide)) eN dX12_rallyBad_30 ?_
          refine JJ_icmp_ge (tgt := 61) dX12_rallyBad_31 (by decide) (fun c7 => absurd c7 (nI_ge (by omega) (by omega))) (fun _ => ?_)
          refine JJ_aload_n dX12_rallyBad_34 rfl rfl ?_
          refine JJ_aload_n dX12_rallyBad_35 rfl rfl ?_
          refine JJ_getr (q := o + 18) (cis := [12]) (k := 50) fa_X12_69 (by decide) hR.1 rfl (hR.2 (50, 18, 20, 160) (by decide)).1 dX12_rallyBad_36 ?_
          refine JJ_bipush (v := 40) dX12_rallyBad_39 rfl ?_
          refine JJ_iload_n dX12_rallyBad_41 rfl rfl ?_
          refine JJ_imul dX12_rallyBad_42 ?_
          refine JJ_eqi (x2 := nI (40 * k)) (pk_mul (40) (k)) ?_
          refine JJ_iload_n dX12_rallyBad_43 rfl rfl ?_
          refine JJ_iadd dX12_rallyBad_44 ?_
          refine JJ_eqi (x2 := nI (40 * k + j)) (nI_add (40 * k) (j)) ?_
          refine JJ_ialdX (v := M (o + 18) (40 * k + j)) (hR.2 (50, 18, 20, 160) (by decide)).2 (IX_nI (by omega) (by omega)) (hN.2 18 _ (by decide) (by decide)) rfl dX12_rallyBad_45 ?_
          refine JJ_callV (rest := []) hR.1 rfl rfl (kr_isStroke (v := M (o + 18) (40 * k + j)) hR hN) (by decide) mi_X12_isStroke lk_X12_98 rfl (Nat.le_of_ble_eq_true rfl) rfl rfl dX12_rallyBad_46 ?_
          intro v8 μ9 h10
          obtain ⟨rfl, rfl⟩ := h10
          refine JJ_r1 ?_
          refine JJ_if_ne (tgt := 55) dX12_rallyBad_49 (by decide) (fun c11 => ?_) (fun c11 => ?_)
          · skip
            refine JJ_iinc (v := nI (j + 1)) (lv' := [(2, .int (nI (j + 1))), (0, .ref o), (1, .int (nI k))]) dX12_rallyBad_55 rfl (nI_add (j) 1) (by decide) rfl ?_
            refine JJ_goto (tgt := 24) dX12_rallyBad_58 (by decide) ?_
            refine JJ.pick [0, 1, 2] rfl ?_
            have hv1 := b2_n.mp c11
            rw [ecn, cm1 (by omega)] at hv1
            exact ih (j + 1) (by omega) (fun i hi => by
              rcases Nat.lt_or_ge i j with z | z
              · exact hv i z
              · obtain rfl : i = j := by omega
                rw [ecn, nI_toInt (by omega)]; exact ⟨hv1.1, by omega⟩)
          · skip
            refine JJ_bipush (v := (-2)) dX12_rallyBad_52 rfl ?_
            refine JJ_iret dX12_rallyBad_54 rfl ?_
            exact ans_i (rb_4 (th := M (o + 15)) (sz := M (o + 17)) (im := fun s j => M (o + 18) (40 * s + j)) (cnt := M o 15) (j := j) (by omega) c5 eN hN40 (by omega) (fun z => b2_0.mp c11 (by have z1 : 0 ≤ (M (o + 18) (40 * k + j)).toInt ∧ (M (o + 18) (40 * k + j)).toInt < (M o 15).toInt := z; rw [ecn, cm1 (by omega)]; rw [ecn, nI_toInt (by omega)] at z1; exact ⟨z1.1, by omega⟩))).symm
      refine JJ.pick [0, 1, 2] rfl ?_
      exact key N 0 (by omega) (fun i hi => absurd hi (Nat.not_lt_zero i))
    · skip
      refine JJ_bipush (v := (-11)) dX12_rallyBad_19 rfl ?_
      refine JJ_iret dX12_rallyBad_21 rfl ?_
      exact ans_i (rb_2 (th := M (o + 15)) (sz := M (o + 17)) (im := fun s j => M (o + 18) (40 * s + j)) (cnt := M o 15) (by omega) c5).symm
  · skip
    refine JJ_bipush (v := (-2)) dX12_rallyBad_7 rfl ?_
    refine JJ_iret dX12_rallyBad_9 rfl ?_
    exact ans_i (rb_1 (b2_0.mp c4)).symm
theorem kr_rallyBad {A : Abs} {s : Int32} (hA : rABS o M A) (hg : RNG A) (hR : RWF o S P) (hN : HSR o sc) : KK G sc yX12_rallyBad cX12_rallyBad 3 (some .int) 3 0 0 [.ref o, .int s] (n, S, M, L, P) (ansI (z_rb A s) (n, S, M, L, P)) := by
  rw [← hA.rb hg]
  exact kr_rallyBad0 (hA.shi hg) hR hN
set_option maxHeartbeats 4000000 in
set_option maxRecDepth 100000 in
theorem kr_rally {s what : Int32} {A : Abs} (hA : rABS o M A) (hg : RNG A) (hR : RWF o S P) (hN : HSR o sc) : KK G sc yX12_rally cX12_rally 5 (some .int) 64 0 0 [.ref o, .int s, .int what] (n, S, M, L, P) (qI o n S M P (zr_rally A s what)) := sorry
set_option maxHeartbeats 4000000 in
set_option maxRecDepth 100000 in
theorem kr_likely {s : Int32} {A : Abs} (hA : rABS o M A) (hg : RNG A) (hR : RWF o S P) (hN : HSR o sc) : KK G sc yX12_likely cX12_likely 2 (some .long) 64 0 0 [.ref o, .int s] (n, S, M, L, P) (qL o n S M P (zr_likely A s)) := sorry
set_option maxHeartbeats 4000000 in
set_option maxRecDepth 100000 in
theorem kr_inTheWay {s : Int32} {A : Abs} (hA : rABS o M A) (hg : RNG A) (hR : RWF o S P) (hN : HSR o sc) : KK G sc yX12_inTheWay cX12_inTheWay 3 (some .int) 64 0 0 [.ref o, .int s] (n, S, M, L, P) (qI o n S M P (zr_way A s)) := sorry

end REF5
