section REF7
variable {G : Gx} {sc : Nat → Nat → Prop} {n : Nat} {S : Nat → Nat × Nat} {M : Nat → Nat → Int32} {L : Nat → Nat → Int64} {P : Nat → Nat → Option Nat} {o : Nat}

set_option maxHeartbeats 4000000 in
set_option maxRecDepth 100000 in
theorem kr_best {pl nn what : Int32} {A : Abs} (hA : rABS o M A) (hg : RNG A) (hR : RWF o S P) (hN : HSR o sc) : KK G sc yX12_best cX12_best 5 (some .int) 70 0 0 [.ref o, .int pl, .int nn, .int what] (n, S, M, L, P) (qI o n S M P (zr_best A pl nn what)) := by
  refine KK_of2 [(0, .ref o), (1, .int pl), (2, .int nn), (3, .int what)] (by decide +kernel) (Nat.le_of_ble_eq_true rfl) rfl ?_
  refine JJ_iload_n dX12_best_0 rfl rfl ?_
  refine JJ_callS (rest := []) (kr_isPlayer (v := pl)) (by decide) mi_X12_isPlayer lk_X12_90 rfl (Nat.le_of_ble_eq_true rfl) rfl rfl dX12_best_1 ?_
  intro v1 μ2 h3
  obtain ⟨rfl, rfl⟩ := h3
  refine JJ_r1 ?_
  refine JJ_if_eq (tgt := 29) dX12_best_4 (by decide) (fun c4 => ?_) (fun c4 => ?_)
  · skip
    refine JJ_bipush (v := (-100)) dX12_best_29 rfl ?_
    refine JJ_iret dX12_best_31 rfl ?_
    exact qI_n (if_pos (fun z => b2_0.mp c4 z.1)).symm
  · skip
    refine JJ_iload_n dX12_best_7 rfl rfl ?_
    refine JJ_i2l dX12_best_8 ?_
    refine JJ_lconst (v := 0) dX12_best_9 rfl ?_
    refine JJ_ldc2 (v := 5) dX12_best_10 tb_1099 ?_
    refine JJ_callS (rest := []) (kr_in32 (v := nn) (lo := 0) (hi := 5) (a := 0) (b := 5) rfl rfl) (by decide) mi_X12_in lk_X12_82 rfl (Nat.le_of_ble_eq_true rfl) rfl rfl dX12_best_13 ?_
    intro v5 μ6 h7
    obtain ⟨rfl, rfl⟩ := h7
    refine JJ_r1 ?_
    refine JJ_if_eq (tgt := 29) dX12_best_16 (by decide) (fun c8 => ?_) (fun c8 => ?_)
    · skip
      refine JJ_bipush (v := (-100)) dX12_best_29 rfl ?_
      refine JJ_iret dX12_best_31 rfl ?_
      exact qI_n (if_pos (fun z => b2_0.mp c8 z.2.1)).symm
    · skip
      refine JJ_iload_n dX12_best_19 rfl rfl ?_
      refine JJ_i2l dX12_best_20 ?_
      refine JJ_lconst (v := 0) dX12_best_21 rfl ?_
      refine JJ_lconst (v := 1) dX12_best_22 rfl ?_
      refine JJ_callS (rest := []) (kr_in32 (v := what) (lo := 0) (hi := 1) (a := 0) (b := 1) rfl rfl) (by decide) mi_X12_in lk_X12_82 rfl (Nat.le_of_ble_eq_true rfl) rfl rfl dX12_best_23 ?_
      intro v9 μ10 h11
      obtain ⟨rfl, rfl⟩ := h11
      refine JJ_r1 ?_
      refine JJ_if_ne (tgt := 32) dX12_best_26 (by decide) (fun c12 => ?_) (fun c12 => ?_)
      · skip
        obtain ⟨p, hp1, rfl⟩ := n_of (m := 1) (by decide) (b2_n.mp c4)
        obtain ⟨q, hq5, rfl⟩ := n_of (m := 5) (by decide) (b2_n.mp c8)
        refine JJ_aload_n dX12_best_32 rfl rfl ?_
        refine JJ_iload_n dX12_best_33 rfl rfl ?_
        refine JJ_iload_n dX12_best_34 rfl rfl ?_
        have hAv1 : rABS o M A := hA
        refine JJ_callV (rest := []) hR.1 rfl rfl (kr_valueOf q p 0 M L A (by omega) (by omega) (by omega) hAv1 hg hR hN) (by omega) mi_X12_valueOf lk_X12_330 rfl (Nat.le_of_ble_eq_true rfl) rfl rfl dX12_best_35 ?_
        intro v13 μ14 h15
        obtain ⟨rfl, Mv1, Lv1, rfl, h391, hfr1⟩ := h15
        refine JJ_r1 ?_
        refine JJ_istore (lv' := [(4, .int ((zval q A p).1)), (0, .ref o), (1, .int (nI p)), (2, .int (nI q)), (3, .int what)]) dX12_best_38 (by decide) rfl ?_
        refine JJ_iload_n dX12_best_40 rfl rfl ?_
        refine JJ_if_ne (tgt := 49) dX12_best_41 (by decide) (fun c16 => ?_) (fun c16 => ?_)
        · skip
          refine JJ_aload_n dX12_best_49 rfl rfl ?_
          refine JJ_geti (v := (zval q A p).2) (cis := [12]) (k := 39) fa_X12_327 (by decide) hR.1 rfl (hN.1 39 (by decide)) h391 dX12_best_50 ?_
          refine JJ_iret dX12_best_53 rfl ?_
          have e0 : zr_best A (nI p) (nI q) what = (zval q A p).2 := by
            unfold zr_best
            rw [if_neg (fun z => z ⟨b2_n.mp c4, b2_n.mp c8, b2_n.mp c12⟩), if_neg c16, i2n_1 hp1, show i2n (nI q) = q from nI_clamp (by omega)]
          exact qI_r e0.symm (fun b k z => (hfr1 b k (fun q => z q.td)).trans (rfl))
        · skip
          refine JJ_iload dX12_best_44 rfl ?_
          refine JJ_goto (tgt := 53) dX12_best_46 (by decide) ?_
          refine JJ_iret dX12_best_53 rfl ?_
          have e0 : zr_best A (nI p) (nI q) what = (zval q A p).1 := by
            unfold zr_best
            rw [if_neg (fun z => z ⟨b2_n.mp c4, b2_n.mp c8, b2_n.mp c12⟩), if_pos c16, i2n_1 hp1, show i2n (nI q) = q from nI_clamp (by omega)]
          exact qI_r e0.symm (fun b k z => (hfr1 b k (fun q => z q.td)).trans (rfl))
      · skip
        refine JJ_bipush (v := (-100)) dX12_best_29 rfl ?_
        refine JJ_iret dX12_best_31 rfl ?_
        exact qI_n (if_pos (fun z => b2_0.mp c12 z.2.2)).symm
set_option maxHeartbeats 4000000 in
set_option maxRecDepth 100000 in
theorem kr_sure {pl : Int32} {A : Abs} (hA : rABS o M A) (hg : RNG A) (hR : RWF o S P) (hN : HSR o sc) : KK G sc yX12_sure cX12_sure 3 (some .int) 70 0 0 [.ref o, .int pl] (n, S, M, L, P) (qI o n S M P (zr_sure A pl)) := by
  refine KK_of2 [(0, .ref o), (1, .int pl)] (by decide +kernel) (Nat.le_of_ble_eq_true rfl) rfl ?_
  refine JJ_iload_n dX12_sure_0 rfl rfl ?_
  refine JJ_callS (rest := []) (kr_isPlayer (v := pl)) (by decide) mi_X12_isPlayer lk_X12_90 rfl (Nat.le_of_ble_eq_true rfl) rfl rfl dX12_sure_1 ?_
  intro v1 μ2 h3
  obtain ⟨rfl, rfl⟩ := h3
  refine JJ_r1 ?_
  refine JJ_if_ne (tgt := 10) dX12_sure_4 (by decide) (fun c4 => ?_) (fun c4 => ?_)
  · skip
    obtain ⟨p, hp1, rfl⟩ := n_of (m := 1) (by decide) (b2_n.mp c4)
    refine JJ_iconst (v := 1) dX12_sure_10 rfl ?_
    refine JJ_istore_n (lv' := [(2, .int 1), (0, .ref o), (1, .int (nI p))]) dX12_sure_11 rfl (by decide) rfl ?_
    refine JJ_iload_n dX12_sure_12 rfl rfl ?_
    refine JJ_bipush (v := 6) dX12_sure_13 rfl ?_
    refine JJ_icmp_ge (tgt := 36) dX12_sure_15 (by decide) (fun c5 => absurd c5 (by decide)) (fun _ => ?_)
    refine JJ_aload_n dX12_sure_18 rfl rfl ?_
    refine JJ_iload_n dX12_sure_19 rfl rfl ?_
    refine JJ_iload_n dX12_sure_20 rfl rfl ?_
    have hAv1 : rABS o M A := hA
    refine JJ_callV (rest := []) hR.1 rfl rfl (kr_valueOf 1 p 0 M L A (by omega) (by omega) (by omega) hAv1 hg hR hN) (by omega) mi_X12_valueOf lk_X12_330 rfl (Nat.le_of_ble_eq_true rfl) rfl rfl dX12_sure_21 ?_
    intro v6 μ7 h8
    obtain ⟨rfl, Mv1, Lv1, rfl, h391, hfr1⟩ := h8
    refine JJ_r1 ?_
    refine JJ_iconst (v := 1) dX12_sure_24 rfl ?_
    refine JJ_icmp_ne (tgt := 30) dX12_sure_25 (by decide) (fun c9 => ?_) (fun c9 => ?_)
    · skip
      refine JJ_iinc (v := 3) (lv' := [(2, .int 3), (0, .ref o), (1, .int (nI p))]) dX12_sure_30 rfl (by decide) (by decide) rfl ?_
      refine JJ_goto (tgt := 12) dX12_sure_33 (by decide) ?_
      refine JJ_iload_n dX12_sure_12 rfl rfl ?_
      refine JJ_bipush (v := 6) dX12_sure_13 rfl ?_
      refine JJ_icmp_ge (tgt := 36) dX12_sure_15 (by decide) (fun c10 => absurd c10 (by decide)) (fun _ => ?_)
      refine JJ_aload_n dX12_sure_18 rfl rfl ?_
      refine JJ_iload_n dX12_sure_19 rfl rfl ?_
      refine JJ_iload_n dX12_sure_20 rfl rfl ?_
      have hAv2 : rABS o Mv1 A := rABSg.keep hA (fun b k z => (hfr1 b k (fun q => z q.td)).trans (rfl))
      refine JJ_callV (rest := []) hR.1 rfl rfl (kr_valueOf 3 p 0 Mv1 Lv1 A (by omega) (by omega) (by omega) hAv2 hg hR hN) (by omega) mi_X12_valueOf lk_X12_330 rfl (Nat.le_of_ble_eq_true rfl) rfl rfl dX12_sure_21 ?_
      intro v11 μ12 h13
      obtain ⟨rfl, Mv2, Lv2, rfl, h392, hfr2⟩ := h13
      refine JJ_r1 ?_
      refine JJ_iconst (v := 1) dX12_sure_24 rfl ?_
      refine JJ_icmp_ne (tgt := 30) dX12_sure_25 (by decide) (fun c14 => ?_) (fun c14 => ?_)
      · skip
        refine JJ_iinc (v := 5) (lv' := [(2, .int 5), (0, .ref o), (1, .int (nI p))]) dX12_sure_30 rfl (by decide) (by decide) rfl ?_
        refine JJ_goto (tgt := 12) dX12_sure_33 (by decide) ?_
        refine JJ_iload_n dX12_sure_12 rfl rfl ?_
        refine JJ_bipush (v := 6) dX12_sure_13 rfl ?_
        refine JJ_icmp_ge (tgt := 36) dX12_sure_15 (by decide) (fun c15 => absurd c15 (by decide)) (fun _ => ?_)
        refine JJ_aload_n dX12_sure_18 rfl rfl ?_
        refine JJ_iload_n dX12_sure_19 rfl rfl ?_
        refine JJ_iload_n dX12_sure_20 rfl rfl ?_
        have hAv3 : rABS o Mv2 A := rABSg.keep hA (fun b k z => (hfr2 b k (fun q => z q.td)).trans ((hfr1 b k (fun q => z q.td)).trans (rfl)))
        refine JJ_callV (rest := []) hR.1 rfl rfl (kr_valueOf 5 p 0 Mv2 Lv2 A (by omega) (by omega) (by omega) hAv3 hg hR hN) (by omega) mi_X12_valueOf lk_X12_330 rfl (Nat.le_of_ble_eq_true rfl) rfl rfl dX12_sure_21 ?_
        intro v16 μ17 h18
        obtain ⟨rfl, Mv3, Lv3, rfl, h393, hfr3⟩ := h18
        refine JJ_r1 ?_
        refine JJ_iconst (v := 1) dX12_sure_24 rfl ?_
        refine JJ_icmp_ne (tgt := 30) dX12_sure_25 (by decide) (fun c19 => ?_) (fun c19 => ?_)
        · skip
          refine JJ_iinc (v := 7) (lv' := [(2, .int 7), (0, .ref o), (1, .int (nI p))]) dX12_sure_30 rfl (by decide) (by decide) rfl ?_
          refine JJ_goto (tgt := 12) dX12_sure_33 (by decide) ?_
          refine JJ_iload_n dX12_sure_12 rfl rfl ?_
          refine JJ_bipush (v := 6) dX12_sure_13 rfl ?_
          refine JJ_icmp_ge (tgt := 36) dX12_sure_15 (by decide) (fun _ => ?_) (fun c20 => absurd (by decide) c20)
          refine JJ_iconst (v := (-1)) dX12_sure_36 rfl ?_
          refine JJ_iret dX12_sure_37 rfl ?_
          have e0 : zr_sure A (nI p) = (-1) := by
            unfold zr_sure
            rw [if_neg (fun z => z (b2_n.mp c4)), i2n_1 hp1, if_neg c9, if_neg c14, if_neg c19]
          exact qI_r e0.symm (fun b k z => (hfr3 b k (fun q => z q.td)).trans ((hfr2 b k (fun q => z q.td)).trans ((hfr1 b k (fun q => z q.td)).trans (rfl))))
        · skip
          refine JJ_iload_n dX12_sure_28 rfl rfl ?_
          refine JJ_iret dX12_sure_29 rfl ?_
          have e0 : zr_sure A (nI p) = 5 := by
            unfold zr_sure
            rw [if_neg (fun z => z (b2_n.mp c4)), i2n_1 hp1, if_neg c9, if_neg c14, if_pos c19]
          exact qI_r e0.symm (fun b k z => (hfr3 b k (fun q => z q.td)).trans ((hfr2 b k (fun q => z q.td)).trans ((hfr1 b k (fun q => z q.td)).trans (rfl))))
      · skip
        refine JJ_iload_n dX12_sure_28 rfl rfl ?_
        refine JJ_iret dX12_sure_29 rfl ?_
        have e0 : zr_sure A (nI p) = 3 := by
          unfold zr_sure
          rw [if_neg (fun z => z (b2_n.mp c4)), i2n_1 hp1, if_neg c9, if_pos c14]
        exact qI_r e0.symm (fun b k z => (hfr2 b k (fun q => z q.td)).trans ((hfr1 b k (fun q => z q.td)).trans (rfl)))
    · skip
      refine JJ_iload_n dX12_sure_28 rfl rfl ?_
      refine JJ_iret dX12_sure_29 rfl ?_
      have e0 : zr_sure A (nI p) = 1 := by
        unfold zr_sure
        rw [if_neg (fun z => z (b2_n.mp c4)), i2n_1 hp1, if_pos c9]
      exact qI_r e0.symm (fun b k z => (hfr1 b k (fun q => z q.td)).trans (rfl))
  · skip
    refine JJ_bipush (v := (-2)) dX12_sure_7 rfl ?_
    refine JJ_iret dX12_sure_9 rfl ?_
    exact qI_n (if_pos (fun z => b2_0.mp c4 z)).symm
set_option maxHeartbeats 4000000 in
set_option maxRecDepth 100000 in
theorem kr_badness {p : Nat} {c0 : Int32} (hp : p < 2) {A : Abs} (hA : rABS o M A) (hg : RNG A) (hR : RWF o S P) (hN : HSR o sc) : KK G sc yX12_badness cX12_badness 7 (some .int) 62 0 0 [.ref o, .int (nI p), .int c0] (n, S, M, L, P) (ansI (zbad A p c0) (n, S, M, L, P)) := by
  refine KK_of2 [(0, .ref o), (1, .int (nI p)), (2, .int c0)] (by decide +kernel) (Nat.le_of_ble_eq_true rfl) rfl ?_
  refine JJ_iconst (v := 0) dX12_badness_0 rfl ?_
  refine JJ_istore_n (lv' := [(3, .int 0), (0, .ref o), (1, .int (nI p)), (2, .int c0)]) dX12_badness_1 rfl (by decide) rfl ?_
  refine JJ_iconst (v := 1) dX12_badness_2 rfl ?_
  refine JJ_istore (lv' := [(4, .int 1), (3, .int 0), (0, .ref o), (1, .int (nI p)), (2, .int c0)]) dX12_badness_3 (by decide) rfl ?_
  refine JJ_iconst (v := 0) dX12_badness_5 rfl ?_
  refine JJ_istore (lv' := [(5, .int 0), (4, .int 1), (3, .int 0), (0, .ref o), (1, .int (nI p)), (2, .int c0)]) dX12_badness_6 (by decide) rfl ?_
  obtain ⟨cn, hc6, hcA, hcZ⟩ := cnt_e hg
  have hcM : M o 15 = nI cn := hA.cnt.trans hcA
  have key : ∀ (d k : Nat) (mo fi : Int32), k + d = cn → mo = zmost (zlate A p c0) k → (fi = 0 ↔ ¬ k = 0) → JJ G sc yX12_badness cX12_badness 7 (some .int) 62 0 0 (ansI (zbad A p c0) (n, S, M, L, P)) 8 [(5, .int (nI k)), (4, .int fi), (3, .int mo), (0, .ref o), (1, .int (nI p)), (2, .int c0)] [] (n, S, M, L, P) := by
    intro d
    induction d with
    | zero =>
      intro k mo fi hk hmo hfi
      refine JJ_iload dX12_badness_8 rfl ?_
      refine JJ_aload_n dX12_badness_10 rfl rfl ?_
      refine JJ_geti (v := nI cn) (cis := [12]) (k := 15) fa_X12_79 (by decide) hR.1 rfl (hN.1 15 (by decide)) hcM dX12_badness_11 ?_
      refine JJ_icmp_ge (tgt := 72) dX12_badness_14 (by decide) (fun _ => ?_) (fun c1 => absurd (nI_le (by omega) (by omega)) c1)
      refine JJ_iload_n dX12_badness_72 rfl rfl ?_
      refine JJ_iret dX12_badness_73 rfl ?_
      exact ans_i (by rw [hmo]; unfold zbad; rw [hcZ, show k = cn by omega])
    | succ d ihd =>
      intro k mo fi hk hmo hfi
      refine JJ_iload dX12_badness_8 rfl ?_
      refine JJ_aload_n dX12_badness_10 rfl rfl ?_
      refine JJ_geti (v := nI cn) (cis := [12]) (k := 15) fa_X12_79 (by decide) hR.1 rfl (hN.1 15 (by decide)) hcM dX12_badness_11 ?_
      refine JJ_icmp_ge (tgt := 72) dX12_badness_14 (by decide) (fun c2 => absurd c2 (nI_ge (by omega) (by omega))) (fun _ => ?_)
      refine JJ_aload_n dX12_badness_17 rfl rfl ?_
      refine JJ_iload_n dX12_badness_18 rfl rfl ?_
      refine JJ_iload_n dX12_badness_19 rfl rfl ?_
      refine JJ_aload_n dX12_badness_20 rfl rfl ?_
      refine JJ_iload dX12_badness_21 rfl ?_
      refine JJ_aload_n dX12_badness_23 rfl rfl ?_
      refine JJ_getr (q := o + 4) (cis := [12]) (k := 7) fa_X12_23 (by decide) hR.1 rfl (hR.2 (7, 4, 20, 2) (by decide)).1 dX12_badness_24 ?_
      refine JJ_iconst (v := 1) dX12_badness_27 rfl ?_
      refine JJ_iload_n dX12_badness_28 rfl rfl ?_
      refine JJ_isub dX12_badness_29 ?_
      refine JJ_eqi (x2 := nI (1 - p)) (e_sub1 hp) ?_
      refine JJ_ialdX (v := A.1 0 (1 - p)) (hR.2 (7, 4, 20, 2) (by decide)).2 (IX_nI (by omega) (by omega)) (hN.2.1 4 _ (by decide) (by decide)) (hA.c4 (by omega)) dX12_badness_30 ?_
      refine JJ_callV (rest := [.int c0, .int (nI p), .ref o]) hR.1 rfl rfl (kr_comes (fr := A.1 0 (1 - p)) (by omega) hR hN) (by decide) mi_X12_comesTo lk_X12_252 rfl (Nat.le_of_ble_eq_true rfl) rfl rfl dX12_badness_31 ?_
      intro v3 μ4 h5
      obtain ⟨rfl, rfl⟩ := h5
      refine JJ_r1 ?_
      refine JJ_eqi (x2 := s_comes (A.1 5 k) (A.1 7 k) (A.1 0 (1 - p))) (by rw [(hA.c8 (by omega)), (hA.c10 (by omega))]) ?_
      refine JJ_callV (rest := []) hR.1 rfl rfl (kr_needs (E := (zE A)) (fr := c0) (to := s_comes (A.1 5 k) (A.1 7 k) (A.1 0 (1 - p))) (by omega) hR hN (hA.rtx hg)) (by decide) mi_X12_needsOf lk_X12_264 rfl (Nat.le_of_ble_eq_true rfl) rfl rfl dX12_badness_34 ?_
      intro v6 μ7 h8
      obtain ⟨rfl, rfl⟩ := h8
      refine JJ_r1 ?_
      refine JJ_eqi (x2 := s_needs (zE A) (A.1 4 0) (A.1 1 p) (A.1 2 p) c0 (s_comes (A.1 5 k) (A.1 7 k) (A.1 0 (1 - p)))) (by rw [hA.c11, (hA.c5 (by omega)), (hA.c6 (by omega))]) ?_
      refine JJ_aload_n dX12_badness_37 rfl rfl ?_
      refine JJ_iconst (v := 1) dX12_badness_38 rfl ?_
      refine JJ_iload_n dX12_badness_39 rfl rfl ?_
      refine JJ_isub dX12_badness_40 ?_
      refine JJ_eqi (x2 := nI (1 - p)) (e_sub1 hp) ?_
      refine JJ_iload dX12_badness_41 rfl ?_
      refine JJ_callV (rest := [.int (s_needs (zE A) (A.1 4 0) (A.1 1 p) (A.1 2 p) c0 (s_comes (A.1 5 k) (A.1 7 k) (A.1 0 (1 - p))))]) hR.1 rfl rfl (kr_tenths (E := (zE A)) (by omega) (by omega) hR hN (hA.rtx hg)) (by decide) mi_X12_tenthsOf lk_X12_267 rfl (Nat.le_of_ble_eq_true rfl) rfl rfl dX12_badness_43 ?_
      intro v9 μ10 h11
      obtain ⟨rfl, rfl⟩ := h11
      refine JJ_r1 ?_
      refine JJ_eqi (x2 := s_tenths (zE A) (A.1 4 0) (A.1 1 (1 - p)) (A.1 2 (1 - p)) (A.1 5 k) (A.1 6 k) (A.1 0 (1 - p)) (s_comes (A.1 5 k) (A.1 7 k) (A.1 0 (1 - p)))) (by rw [hA.c11, (hA.c5 (by omega)), (hA.c6 (by omega)), (hA.c8 (by omega)), (hA.c9 (by omega)), (hA.c10 (by omega)), (hA.c4 (by omega))]) ?_
      refine JJ_isub dX12_badness_46 ?_
      refine JJ_istore (lv' := [(6, .int ((s_needs (zE A) (A.1 4 0) (A.1 1 p) (A.1 2 p) c0 (s_comes (A.1 5 k) (A.1 7 k) (A.1 0 (1 - p)))) - (s_tenths (zE A) (A.1 4 0) (A.1 1 (1 - p)) (A.1 2 (1 - p)) (A.1 5 k) (A.1 6 k) (A.1 0 (1 - p)) (s_comes (A.1 5 k) (A.1 7 k) (A.1 0 (1 - p)))))), (5, .int (nI k)), (4, .int fi), (3, .int mo), (0, .ref o), (1, .int (nI p)), (2, .int c0)]) dX12_badness_47 (by decide) rfl ?_
      refine JJ_iload dX12_badness_49 rfl ?_
      refine JJ_if_ne (tgt := 60) dX12_badness_51 (by decide) (fun c12 => ?_) (fun c12 => ?_)
      · skip
        refine JJ_iload dX12_badness_60 rfl ?_
        refine JJ_istore_n (lv' := [(3, .int ((s_needs (zE A) (A.1 4 0) (A.1 1 p) (A.1 2 p) c0 (s_comes (A.1 5 k) (A.1 7 k) (A.1 0 (1 - p)))) - (s_tenths (zE A) (A.1 4 0) (A.1 1 (1 - p)) (A.1 2 (1 - p)) (A.1 5 k) (A.1 6 k) (A.1 0 (1 - p)) (s_comes (A.1 5 k) (A.1 7 k) (A.1 0 (1 - p)))))), (6, .int ((s_needs (zE A) (A.1 4 0) (A.1 1 p) (A.1 2 p) c0 (s_comes (A.1 5 k) (A.1 7 k) (A.1 0 (1 - p)))) - (s_tenths (zE A) (A.1 4 0) (A.1 1 (1 - p)) (A.1 2 (1 - p)) (A.1 5 k) (A.1 6 k) (A.1 0 (1 - p)) (s_comes (A.1 5 k) (A.1 7 k) (A.1 0 (1 - p)))))), (5, .int (nI k)), (4, .int fi), (0, .ref o), (1, .int (nI p)), (2, .int c0)]) dX12_badness_62 rfl (by decide) rfl ?_
        refine JJ_iconst (v := 0) dX12_badness_63 rfl ?_
        refine JJ_istore (lv' := [(4, .int 0), (3, .int ((s_needs (zE A) (A.1 4 0) (A.1 1 p) (A.1 2 p) c0 (s_comes (A.1 5 k) (A.1 7 k) (A.1 0 (1 - p)))) - (s_tenths (zE A) (A.1 4 0) (A.1 1 (1 - p)) (A.1 2 (1 - p)) (A.1 5 k) (A.1 6 k) (A.1 0 (1 - p)) (s_comes (A.1 5 k) (A.1 7 k) (A.1 0 (1 - p)))))), (6, .int ((s_needs (zE A) (A.1 4 0) (A.1 1 p) (A.1 2 p) c0 (s_comes (A.1 5 k) (A.1 7 k) (A.1 0 (1 - p)))) - (s_tenths (zE A) (A.1 4 0) (A.1 1 (1 - p)) (A.1 2 (1 - p)) (A.1 5 k) (A.1 6 k) (A.1 0 (1 - p)) (s_comes (A.1 5 k) (A.1 7 k) (A.1 0 (1 - p)))))), (5, .int (nI k)), (0, .ref o), (1, .int (nI p)), (2, .int c0)]) dX12_badness_64 (by decide) rfl ?_
        refine JJ_iinc (v := nI (k + 1)) (lv' := [(5, .int (nI (k + 1))), (4, .int 0), (3, .int ((s_needs (zE A) (A.1 4 0) (A.1 1 p) (A.1 2 p) c0 (s_comes (A.1 5 k) (A.1 7 k) (A.1 0 (1 - p)))) - (s_tenths (zE A) (A.1 4 0) (A.1 1 (1 - p)) (A.1 2 (1 - p)) (A.1 5 k) (A.1 6 k) (A.1 0 (1 - p)) (s_comes (A.1 5 k) (A.1 7 k) (A.1 0 (1 - p)))))), (6, .int ((s_needs (zE A) (A.1 4 0) (A.1 1 p) (A.1 2 p) c0 (s_comes (A.1 5 k) (A.1 7 k) (A.1 0 (1 - p)))) - (s_tenths (zE A) (A.1 4 0) (A.1 1 (1 - p)) (A.1 2 (1 - p)) (A.1 5 k) (A.1 6 k) (A.1 0 (1 - p)) (s_comes (A.1 5 k) (A.1 7 k) (A.1 0 (1 - p)))))), (0, .ref o), (1, .int (nI p)), (2, .int c0)]) dX12_badness_66 rfl (nI_add (k) 1) (by decide) rfl ?_
        refine JJ_goto (tgt := 8) dX12_badness_69 (by decide) ?_
        refine JJ.pick [0, 1, 2, 4, 5, 6] rfl ?_
        refine ihd (k + 1) _ _ (by omega) ((if_pos (Or.inl (Classical.not_not.mp (fun h => c12 (hfi.mpr h))))).symm) ⟨fun _ => by omega, fun _ => rfl⟩
      · skip
        refine JJ_iload dX12_badness_54 rfl ?_
        refine JJ_iload_n dX12_badness_56 rfl rfl ?_
        refine JJ_icmp_le (tgt := 63) dX12_badness_57 (by decide) (fun c13 => ?_) (fun c13 => ?_)
        · skip
          refine JJ_iconst (v := 0) dX12_badness_63 rfl ?_
          refine JJ_istore (lv' := [(4, .int 0), (6, .int ((s_needs (zE A) (A.1 4 0) (A.1 1 p) (A.1 2 p) c0 (s_comes (A.1 5 k) (A.1 7 k) (A.1 0 (1 - p)))) - (s_tenths (zE A) (A.1 4 0) (A.1 1 (1 - p)) (A.1 2 (1 - p)) (A.1 5 k) (A.1 6 k) (A.1 0 (1 - p)) (s_comes (A.1 5 k) (A.1 7 k) (A.1 0 (1 - p)))))), (5, .int (nI k)), (3, .int mo), (0, .ref o), (1, .int (nI p)), (2, .int c0)]) dX12_badness_64 (by decide) rfl ?_
          refine JJ_iinc (v := nI (k + 1)) (lv' := [(5, .int (nI (k + 1))), (4, .int 0), (6, .int ((s_needs (zE A) (A.1 4 0) (A.1 1 p) (A.1 2 p) c0 (s_comes (A.1 5 k) (A.1 7 k) (A.1 0 (1 - p)))) - (s_tenths (zE A) (A.1 4 0) (A.1 1 (1 - p)) (A.1 2 (1 - p)) (A.1 5 k) (A.1 6 k) (A.1 0 (1 - p)) (s_comes (A.1 5 k) (A.1 7 k) (A.1 0 (1 - p)))))), (3, .int mo), (0, .ref o), (1, .int (nI p)), (2, .int c0)]) dX12_badness_66 rfl (nI_add (k) 1) (by decide) rfl ?_
          refine JJ_goto (tgt := 8) dX12_badness_69 (by decide) ?_
          refine JJ.pick [0, 1, 3, 4, 5, 6] rfl ?_
          refine ihd (k + 1) _ _ (by omega) (by rw [hmo]; exact (if_neg (fun h => h.elim (fun e => (hfi.mp c12) e) (fun q => absurd (show zlate A p c0 k ≤ zmost (zlate A p c0) k from hmo ▸ c13) (Int32.not_le.mpr q)))).symm) ⟨fun _ => by omega, fun _ => rfl⟩
        · skip
          refine JJ_iload dX12_badness_60 rfl ?_
          refine JJ_istore_n (lv' := [(3, .int ((s_needs (zE A) (A.1 4 0) (A.1 1 p) (A.1 2 p) c0 (s_comes (A.1 5 k) (A.1 7 k) (A.1 0 (1 - p)))) - (s_tenths (zE A) (A.1 4 0) (A.1 1 (1 - p)) (A.1 2 (1 - p)) (A.1 5 k) (A.1 6 k) (A.1 0 (1 - p)) (s_comes (A.1 5 k) (A.1 7 k) (A.1 0 (1 - p)))))), (6, .int ((s_needs (zE A) (A.1 4 0) (A.1 1 p) (A.1 2 p) c0 (s_comes (A.1 5 k) (A.1 7 k) (A.1 0 (1 - p)))) - (s_tenths (zE A) (A.1 4 0) (A.1 1 (1 - p)) (A.1 2 (1 - p)) (A.1 5 k) (A.1 6 k) (A.1 0 (1 - p)) (s_comes (A.1 5 k) (A.1 7 k) (A.1 0 (1 - p)))))), (5, .int (nI k)), (4, .int fi), (0, .ref o), (1, .int (nI p)), (2, .int c0)]) dX12_badness_62 rfl (by decide) rfl ?_
          refine JJ_iconst (v := 0) dX12_badness_63 rfl ?_
          refine JJ_istore (lv' := [(4, .int 0), (3, .int ((s_needs (zE A) (A.1 4 0) (A.1 1 p) (A.1 2 p) c0 (s_comes (A.1 5 k) (A.1 7 k) (A.1 0 (1 - p)))) - (s_tenths (zE A) (A.1 4 0) (A.1 1 (1 - p)) (A.1 2 (1 - p)) (A.1 5 k) (A.1 6 k) (A.1 0 (1 - p)) (s_comes (A.1 5 k) (A.1 7 k) (A.1 0 (1 - p)))))), (6, .int ((s_needs (zE A) (A.1 4 0) (A.1 1 p) (A.1 2 p) c0 (s_comes (A.1 5 k) (A.1 7 k) (A.1 0 (1 - p)))) - (s_tenths (zE A) (A.1 4 0) (A.1 1 (1 - p)) (A.1 2 (1 - p)) (A.1 5 k) (A.1 6 k) (A.1 0 (1 - p)) (s_comes (A.1 5 k) (A.1 7 k) (A.1 0 (1 - p)))))), (5, .int (nI k)), (0, .ref o), (1, .int (nI p)), (2, .int c0)]) dX12_badness_64 (by decide) rfl ?_
          refine JJ_iinc (v := nI (k + 1)) (lv' := [(5, .int (nI (k + 1))), (4, .int 0), (3, .int ((s_needs (zE A) (A.1 4 0) (A.1 1 p) (A.1 2 p) c0 (s_comes (A.1 5 k) (A.1 7 k) (A.1 0 (1 - p)))) - (s_tenths (zE A) (A.1 4 0) (A.1 1 (1 - p)) (A.1 2 (1 - p)) (A.1 5 k) (A.1 6 k) (A.1 0 (1 - p)) (s_comes (A.1 5 k) (A.1 7 k) (A.1 0 (1 - p)))))), (6, .int ((s_needs (zE A) (A.1 4 0) (A.1 1 p) (A.1 2 p) c0 (s_comes (A.1 5 k) (A.1 7 k) (A.1 0 (1 - p)))) - (s_tenths (zE A) (A.1 4 0) (A.1 1 (1 - p)) (A.1 2 (1 - p)) (A.1 5 k) (A.1 6 k) (A.1 0 (1 - p)) (s_comes (A.1 5 k) (A.1 7 k) (A.1 0 (1 - p)))))), (0, .ref o), (1, .int (nI p)), (2, .int c0)]) dX12_badness_66 rfl (nI_add (k) 1) (by decide) rfl ?_
          refine JJ_goto (tgt := 8) dX12_badness_69 (by decide) ?_
          refine JJ.pick [0, 1, 2, 4, 5, 6] rfl ?_
          refine ihd (k + 1) _ _ (by omega) ((if_pos (Or.inr (Int32.not_le.mp (fun q => c13 (hmo ▸ q))))).symm) ⟨fun _ => by omega, fun _ => rfl⟩
  refine JJ.pick [0, 1, 2, 3, 4, 5] rfl ?_
  exact key cn 0 0 1 (by omega) rfl ⟨fun h => absurd h (by decide), fun h => absurd rfl h⟩
end REF7
