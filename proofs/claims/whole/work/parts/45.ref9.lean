section REF9
variable {G : Gx} {sc : Nat → Nat → Prop} {n : Nat} {S : Nat → Nat × Nat} {M : Nat → Nat → Int32} {L : Nat → Nat → Int64} {P : Nat → Nat → Option Nat} {o : Nat}

set_option maxHeartbeats 4000000 in
set_option maxRecDepth 100000 in
theorem kr_draws {seed : Int32} {A : Abs} (hA : rABS o M A) (hg : RNG A) (hR : RWF o S P) (hN : HSR o sc) : KK G sc yX12_draws cX12_draws 5 (some .int) 66 0 0 [.ref o, .int seed] (n, S, M, L, P) (qI o n S M P (zr_drawn A seed)) := by
  refine KK_of2 [(0, .ref o), (1, .int seed)] (by decide +kernel) (Nat.le_of_ble_eq_true rfl) rfl ?_
  refine JJ_aload_n dX12_draws_0 rfl rfl ?_
  refine JJ_callV (rest := []) hR.1 rfl rfl (kr_layAside (a := 0) hA.as (by omega) hR hN) (by decide) mi_X12_layAside lk_X12_315 rfl (Nat.le_of_ble_eq_true rfl) rfl rfl dX12_draws_1 ?_
  intro v1 μ2 h3
  obtain ⟨rfl, Ma, rfl, hla⟩ := h3
  refine JJ_r0 ?_
  have hAa := laid_abs hA hla
  refine JJ_iload_n dX12_draws_4 rfl rfl ?_
  refine JJ_istore_n (lv' := [(2, .int seed), (0, .ref o), (1, .int seed)]) dX12_draws_5 rfl (by decide) rfl ?_
  refine JJ_iconst (v := (-1)) dX12_draws_6 rfl ?_
  refine JJ_istore_n (lv' := [(3, .int ((-1))), (2, .int seed), (0, .ref o), (1, .int seed)]) dX12_draws_7 rfl (by decide) rfl ?_
  refine JJ_iconst (v := 0) dX12_draws_8 rfl ?_
  refine JJ_istore (lv' := [(4, .int 0), (3, .int ((-1))), (2, .int seed), (0, .ref o), (1, .int seed)]) dX12_draws_9 (by decide) rfl ?_
  obtain ⟨cn, hc6, hcA, hcZ⟩ := cnt_e hg
  have hcM : M o 15 = nI cn := hA.cnt.trans hcA
  by_cases hcz : cn = 0
  · skip
    refine JJ_iload dX12_draws_11 rfl ?_
    refine JJ_bipush (v := 40) dX12_draws_13 rfl ?_
    refine JJ_icmp_ge (tgt := 75) dX12_draws_15 (by decide) (fun c4 => absurd c4 (by decide)) (fun _ => ?_)
    refine JJ_iload_n dX12_draws_18 rfl rfl ?_
    refine JJ_iconst (v := (-1)) dX12_draws_19 rfl ?_
    refine JJ_icmp_ne (tgt := 75) dX12_draws_20 (by decide) (fun c5 => absurd (by decide) c5) (fun _ => ?_)
    refine JJ_aload_n dX12_draws_23 rfl rfl ?_
    refine JJ_geti (v := nI cn) (cis := [12]) (k := 15) fa_X12_79 (by decide) hR.1 rfl (hN.1 15 (by decide)) ((hla.2.2.2.2 _ _ (by omega) (by omega)).trans hcM) dX12_draws_24 ?_
    refine JJ_if_le (tgt := 75) dX12_draws_27 (by decide) (fun _ => ?_) (fun c6 => absurd (show nI cn ≤ 0 by rw [hcz]; decide) c6)
    refine JJ_aload_n dX12_draws_75 rfl rfl ?_
    refine JJ_callV (rest := []) hR.1 rfl rfl (kr_takeBack (a := 0) (lst33 hla (fun b k _ _ _ => rfl) (fun b k _ _ _ _ => rfl)) (by omega) hR hN) (by decide) mi_X12_takeBack lk_X12_322 rfl (Nat.le_of_ble_eq_true rfl) rfl rfl dX12_draws_76 ?_
    intro v7 μ8 h9
    obtain ⟨rfl, Md, rfl, htk⟩ := h9
    refine JJ_r0 ?_
    have hfr := lst hla (fun b k _ _ _ => rfl) (fun b k _ _ _ _ => rfl) htk hA.as
    refine JJ_iload_n dX12_draws_79 rfl rfl ?_
    refine JJ_iret dX12_draws_80 rfl ?_
    exact qI_r (if_pos (hcA.trans (by rw [hcz]; rfl))).symm (fun b k z => hfr b k (fun q => z q.td))
  have ez : zdr 40 A 0 seed = zr_drawn A seed := (if_neg (fun e => hcz (nI_inj (b := 0) (by omega) (by decide) (hcA.symm.trans e)))).symm
  have key : ∀ (d k : Nat) (z : Int32) (Mx : Nat → Nat → Int32) (Ax : Abs), k + d = 40 → RNG Ax → rABSg o 5 Mx Ax → Ax.1 8 0 = nI cn → zdr d Ax k z = zr_drawn A seed → (∀ b k, ¬ (b = o + 4 ∧ k < 2) → ¬ (b = o + 5 ∧ k < 2) → ¬ (b = o ∧ (k = 11 ∨ k = 31)) → Mx b k = Ma b k) → JJ G sc yX12_draws cX12_draws 5 (some .int) 66 0 0 (qI o n S M P (zr_drawn A seed)) 11 [(4, .int (nI k)), (3, .int ((-1))), (2, .int z), (0, .ref o), (1, .int seed)] [] (n, S, Mx, L, P) := by
    intro d
    induction d with
    | zero =>
      intro k z Mx Ax hk hgx hAx hcx hzd hx
      refine JJ_iload dX12_draws_11 rfl ?_
      refine JJ_bipush (v := 40) dX12_draws_13 rfl ?_
      refine JJ_icmp_ge (tgt := 75) dX12_draws_15 (by decide) (fun _ => ?_) (fun c10 => absurd (nI_le (a := 40) (by omega) (by omega)) c10)
      refine JJ_aload_n dX12_draws_75 rfl rfl ?_
      refine JJ_callV (rest := []) hR.1 rfl rfl (kr_takeBack (a := 0) (lst33 hla hx (fun b k _ _ _ _ => rfl)) (by omega) hR hN) (by decide) mi_X12_takeBack lk_X12_322 rfl (Nat.le_of_ble_eq_true rfl) rfl rfl dX12_draws_76 ?_
      intro v11 μ12 h13
      obtain ⟨rfl, Md, rfl, htk⟩ := h13
      refine JJ_r0 ?_
      have hfr := lst hla hx (fun b k _ _ _ _ => rfl) htk hA.as
      refine JJ_iload_n dX12_draws_79 rfl rfl ?_
      refine JJ_iret dX12_draws_80 rfl ?_
      exact qI_r hzd (fun b k z => hfr b k (fun q => z q.td))
    | succ d ihd =>
      intro k z Mx Ax hk hgx hAx hcx hzd hx
      have hcZx : zcnt Ax = cn := by show i2n _ = _; rw [hcx]; exact nI_clamp (by omega)
      have hq6 : s_rnd (s_next z) % cn < 6 := Nat.lt_of_lt_of_le (Nat.mod_lt _ (by omega)) hc6
      refine JJ_iload dX12_draws_11 rfl ?_
      refine JJ_bipush (v := 40) dX12_draws_13 rfl ?_
      refine JJ_icmp_ge (tgt := 75) dX12_draws_15 (by decide) (fun c14 => absurd c14 (nI_ge (b := 40) (by omega) (by omega))) (fun _ => ?_)
      refine JJ_iload_n dX12_draws_18 rfl rfl ?_
      refine JJ_iconst (v := (-1)) dX12_draws_19 rfl ?_
      refine JJ_icmp_ne (tgt := 75) dX12_draws_20 (by decide) (fun c15 => absurd (by decide) c15) (fun _ => ?_)
      refine JJ_aload_n dX12_draws_23 rfl rfl ?_
      refine JJ_geti (v := nI cn) (cis := [12]) (k := 15) fa_X12_79 (by decide) hR.1 rfl (hN.1 15 (by decide)) (hAx.cnt.trans hcx) dX12_draws_24 ?_
      refine JJ_if_le (tgt := 75) dX12_draws_27 (by decide) (fun c16 => absurd c16 (nI_ge (a := 0) (by omega) (by omega))) (fun _ => ?_)
      refine JJ_iload_n dX12_draws_30 rfl rfl ?_
      refine JJ_ldcw (v := 1103515245) dX12_draws_31 tb_1362 ?_
      refine JJ_imul dX12_draws_34 ?_
      refine JJ_sipush (v := 12345) dX12_draws_35 rfl ?_
      refine JJ_iadd dX12_draws_38 ?_
      refine JJ_eqi (x2 := s_next z) rfl ?_
      refine JJ_istore_n (lv' := [(2, .int (s_next z)), (4, .int (nI k)), (3, .int ((-1))), (0, .ref o), (1, .int seed)]) dX12_draws_39 rfl (by decide) rfl ?_
      refine JJ_aload_n dX12_draws_40 rfl rfl ?_
      refine JJ_iload dX12_draws_41 rfl ?_
      refine JJ_iconst (v := 2) dX12_draws_43 rfl ?_
      refine JJ_irem dX12_draws_44 (by decide) ?_
      refine JJ_eqi (x2 := nI (k % 2)) (pk_rem (a := k) (d := 2) (by omega) (by decide) (by decide)) ?_
      refine JJ_iload_n dX12_draws_45 rfl rfl ?_
      refine JJ_bipush (v := 9) dX12_draws_46 rfl ?_
      refine JJ_iushr dX12_draws_48 ?_
      refine JJ_eqi (x2 := nI (s_rnd (s_next z))) (s_rnd_e _) ?_
      refine JJ_aload_n dX12_draws_49 rfl rfl ?_
      refine JJ_geti (v := nI cn) (cis := [12]) (k := 15) fa_X12_79 (by decide) hR.1 rfl (hN.1 15 (by decide)) (hAx.cnt.trans hcx) dX12_draws_50 ?_
      refine JJ_irem dX12_draws_53 (fun e => hcz (nI_inj (b := 0) (by omega) (by decide) e)) ?_
      refine JJ_eqi (x2 := nI (s_rnd (s_next z) % cn)) (pk_rem (by have := s_rnd_lt (s_next z); omega) (by omega) (by omega)) ?_
      refine JJ_callV (rest := []) hR.1 rfl rfl (kr_strikes (E := zE Ax) (k := s_rnd (s_next z) % cn) (p := k % 2) (by omega) hq6 hR hN (hAx.rtx hgx)) (by decide) mi_X12_strikes lk_X12_302 rfl (Nat.le_of_ble_eq_true rfl) rfl rfl dX12_draws_54 ?_
      intro v17 μ18 h19
      obtain ⟨rfl, rfl⟩ := h19
      refine JJ_r1 ?_
      refine JJ_eqi (x2 := b2 (zw Ax (s_rnd (s_next z) % cn) (k % 2))) (b2_c (strk_A hAx (p := k % 2) (q := s_rnd (s_next z) % cn) (by omega) hq6).1) ?_
      refine JJ_nm (fun Mb hMb => ?_)
      have hob := strk_off hMb
      rw [(strk_A hAx (p := k % 2) (q := s_rnd (s_next z) % cn) (by omega) hq6).2.1] at hMb
      have hAb := rput_abs hAx hMb
      have hxb := fun b k z1 z2 z3 => (hob b k z1 z2 z3).trans (hx b k z1 z2 z3)
      refine JJ_if_eq (tgt := 67) dX12_draws_57 (by decide) (fun c20 => ?_) (fun c20 => ?_)
      · skip
        refine JJ_iconst (v := (-1)) dX12_draws_67 rfl ?_
        refine JJ_istore_n (lv' := [(3, .int ((-1))), (2, .int (s_next z)), (4, .int (nI k)), (0, .ref o), (1, .int seed)]) dX12_draws_68 rfl (by decide) rfl ?_
        refine JJ_iinc (v := nI (k + 1)) (lv' := [(4, .int (nI (k + 1))), (3, .int ((-1))), (2, .int (s_next z)), (0, .ref o), (1, .int seed)]) dX12_draws_69 rfl (nI_add (k) 1) (by decide) rfl ?_
        refine JJ_goto (tgt := 11) dX12_draws_72 (by decide) ?_
        refine JJ.pick [0, 1, 2, 3, 4] rfl ?_
        have es : zdr (d + 1) Ax k z = zdr d (zPut Ax (za Ax (s_rnd (s_next z) % cn) (k % 2))) (k + 1) (s_next z) := by
          rw [← hcZx]; exact if_neg (by rw [hcZx]; exact b2_0.mp c20)
        exact ihd (k + 1) (s_next z) Mb _ (by omega) (rng_sa hgx (by omega) hq6) hAb (zPut_cnt.trans hcx) (es.symm.trans hzd) hxb
      · skip
        refine JJ_iload dX12_draws_60 rfl ?_
        refine JJ_iconst (v := 2) dX12_draws_62 rfl ?_
        refine JJ_irem dX12_draws_63 (by decide) ?_
        refine JJ_eqi (x2 := nI (k % 2)) (pk_rem (a := k) (d := 2) (by omega) (by decide) (by decide)) ?_
        refine JJ_goto (tgt := 68) dX12_draws_64 (by decide) ?_
        refine JJ_istore_n (lv' := [(3, .int (nI (k % 2))), (2, .int (s_next z)), (4, .int (nI k)), (0, .ref o), (1, .int seed)]) dX12_draws_68 rfl (by decide) rfl ?_
        refine JJ_iinc (v := nI (k + 1)) (lv' := [(4, .int (nI (k + 1))), (3, .int (nI (k % 2))), (2, .int (s_next z)), (0, .ref o), (1, .int seed)]) dX12_draws_69 rfl (nI_add (k) 1) (by decide) rfl ?_
        refine JJ_goto (tgt := 11) dX12_draws_72 (by decide) ?_
        refine JJ_iload dX12_draws_11 rfl ?_
        refine JJ_bipush (v := 40) dX12_draws_13 rfl ?_
        refine JJ_icmp_ge (tgt := 75) dX12_draws_15 (by decide) (fun c21 => ?_) (fun c21 => ?_)
        · skip
          refine JJ_aload_n dX12_draws_75 rfl rfl ?_
          refine JJ_callV (rest := []) hR.1 rfl rfl (kr_takeBack (a := 0) (lst33 hla hxb (fun b k _ _ _ _ => rfl)) (by omega) hR hN) (by decide) mi_X12_takeBack lk_X12_322 rfl (Nat.le_of_ble_eq_true rfl) rfl rfl dX12_draws_76 ?_
          intro v22 μ23 h24
          obtain ⟨rfl, Md, rfl, htk⟩ := h24
          refine JJ_r0 ?_
          have hfr := lst hla hxb (fun b k _ _ _ _ => rfl) htk hA.as
          refine JJ_iload_n dX12_draws_79 rfl rfl ?_
          refine JJ_iret dX12_draws_80 rfl ?_
          exact qI_r ((show nI (k % 2) = zdr (d + 1) Ax k z from (if_pos (by rw [hcZx]; exact b2_n.mp c20)).symm).trans hzd) (fun b k z => hfr b k (fun q => z q.td))
        · skip
          refine JJ_iload_n dX12_draws_18 rfl rfl ?_
          refine JJ_iconst (v := (-1)) dX12_draws_19 rfl ?_
          refine JJ_icmp_ne (tgt := 75) dX12_draws_20 (by decide) (fun _ => ?_) (fun c25 => absurd c25 (nI_nm1 (by omega)))
          refine JJ_aload_n dX12_draws_75 rfl rfl ?_
          refine JJ_callV (rest := []) hR.1 rfl rfl (kr_takeBack (a := 0) (lst33 hla hxb (fun b k _ _ _ _ => rfl)) (by omega) hR hN) (by decide) mi_X12_takeBack lk_X12_322 rfl (Nat.le_of_ble_eq_true rfl) rfl rfl dX12_draws_76 ?_
          intro v26 μ27 h28
          obtain ⟨rfl, Md, rfl, htk⟩ := h28
          refine JJ_r0 ?_
          have hfr := lst hla hxb (fun b k _ _ _ _ => rfl) htk hA.as
          refine JJ_iload_n dX12_draws_79 rfl rfl ?_
          refine JJ_iret dX12_draws_80 rfl ?_
          exact qI_r ((show nI (k % 2) = zdr (d + 1) Ax k z from (if_pos (by rw [hcZx]; exact b2_n.mp c20)).symm).trans hzd) (fun b k z => hfr b k (fun q => z q.td))
  refine JJ.pick [0, 1, 2, 3, 4] rfl ?_
  exact key 40 0 seed Ma A (by omega) hg hAa hcA ez (fun _ _ _ _ _ => rfl)
set_option maxHeartbeats 4000000 in
set_option maxRecDepth 100000 in
theorem kr_drawn {seed : Int32} {A : Abs} (hA : rABS o M A) (hg : RNG A) (hR : RWF o S P) (hN : HSR o sc) : KK G sc yX12_drawn cX12_drawn 2 (some .int) 67 0 0 [.ref o, .int seed] (n, S, M, L, P) (qI o n S M P (zr_drawn A seed)) := by
  refine KK_of2 [(0, .ref o), (1, .int seed)] (by decide +kernel) (Nat.le_of_ble_eq_true rfl) rfl ?_
  refine JJ_aload_n dX12_drawn_0 rfl rfl ?_
  refine JJ_iload_n dX12_drawn_1 rfl rfl ?_
  refine JJ_callV (rest := []) hR.1 rfl rfl (kr_draws (seed := seed) hA hg hR hN) (by decide) mi_X12_draws lk_X12_359 rfl (Nat.le_of_ble_eq_true rfl) rfl rfl dX12_drawn_2 ?_
  intro v1 μ2 h3
  obtain ⟨rfl, Mc, Lc, rfl, hfr⟩ := h3
  refine JJ_r1 ?_
  refine JJ_iret dX12_drawn_5 rfl ?_
  exact qI_r rfl hfr
set_option maxHeartbeats 4000000 in
set_option maxRecDepth 100000 in
theorem kr_chance {seed nn part : Int32} {A : Abs} (hA : rABS o M A) (hg : RNG A) (hR : RWF o S P) (hN : HSR o sc) : KK G sc yX12_chance cX12_chance 12 (some .long) 68 0 0 [.ref o, .int seed, .int nn, .int part] (n, S, M, L, P) (qL o n S M P (zr_chance A seed nn part)) := by
  refine KK_of2 [(0, .ref o), (1, .int seed), (2, .int nn), (3, .int part)] (by decide +kernel) (Nat.le_of_ble_eq_true rfl) rfl ?_
  refine JJ_iload_n dX12_chance_0 rfl rfl ?_
  refine JJ_i2l dX12_chance_1 ?_
  refine JJ_lconst (v := 1) dX12_chance_2 rfl ?_
  refine JJ_ldc2 (v := 20) dX12_chance_3 tb_1367 ?_
  refine JJ_callS (rest := []) (kr_in32 (v := nn) (lo := 1) (hi := 20) (a := 1) (b := 20) rfl rfl) (by decide) mi_X12_in lk_X12_82 rfl (Nat.le_of_ble_eq_true rfl) rfl rfl dX12_chance_6 ?_
  intro v1 μ2 h3
  obtain ⟨rfl, rfl⟩ := h3
  refine JJ_r1 ?_
  refine JJ_if_eq (tgt := 22) dX12_chance_9 (by decide) (fun c4 => ?_) (fun c4 => ?_)
  · skip
    refine JJ_ldc2 (v := (-4611686018427387904)) dX12_chance_22 tb_1295 ?_
    refine JJ_lret dX12_chance_25 rfl ?_
    exact qL_r (if_pos (fun z => b2_0.mp c4 z.1)).symm (fun _ _ _ => rfl)
  · skip
    refine JJ_iload_n dX12_chance_12 rfl rfl ?_
    refine JJ_i2l dX12_chance_13 ?_
    refine JJ_lconst (v := 0) dX12_chance_14 rfl ?_
    refine JJ_lconst (v := 1) dX12_chance_15 rfl ?_
    refine JJ_callS (rest := []) (kr_in32 (v := part) (lo := 0) (hi := 1) (a := 0) (b := 1) rfl rfl) (by decide) mi_X12_in lk_X12_82 rfl (Nat.le_of_ble_eq_true rfl) rfl rfl dX12_chance_16 ?_
    intro v5 μ6 h7
    obtain ⟨rfl, rfl⟩ := h7
    refine JJ_r1 ?_
    refine JJ_if_ne (tgt := 26) dX12_chance_19 (by decide) (fun c8 => ?_) (fun c8 => ?_)
    · skip
      refine JJ_lconst (v := 0) dX12_chance_26 rfl ?_
      refine JJ_lstore (lv' := [(4, .long 0), (0, .ref o), (1, .int seed), (2, .int nn), (3, .int part)]) dX12_chance_27 (by decide) rfl ?_
      refine JJ_iconst (v := 0) dX12_chance_29 rfl ?_
      refine JJ_istore (lv' := [(6, .int 0), (4, .long 0), (0, .ref o), (1, .int seed), (2, .int nn), (3, .int part)]) dX12_chance_30 (by decide) rfl ?_
      obtain ⟨N, hN20, rfl⟩ := n_of (m := 20) (by decide) ⟨Int.le_trans (by decide) (b2_n.mp c4).1, (b2_n.mp c4).2⟩
      have hN1 : 1 ≤ N := by have := (b2_n.mp c4).1; rw [nI_toInt (by omega)] at this; omega
      have e0 : zr_chance A seed (nI N) part = if part = 0 then nL (zabove A seed N / Nat.gcd (zabove A seed N) N) else nL (N / Nat.gcd (zabove A seed N) N) := by
        unfold zr_chance
        rw [if_neg (fun z => z ⟨b2_n.mp c4, b2_n.mp c8⟩), show i2n (nI N) = N from nI_clamp (by omega)]
      have key : ∀ (d k : Nat) (ab : Int64) (Mx : Nat → Nat → Int32) (Lx : Nat → Nat → Int64), k + d = N → ab = nL (zabove A seed k) → (∀ b k, ¬ TD o b k → Mx b k = M b k) → JJ G sc yX12_chance cX12_chance 12 (some .long) 68 0 0 (qL o n S M P (zr_chance A seed (nI N) part)) 32 [(6, .int (nI k)), (4, .long ab), (0, .ref o), (1, .int seed), (2, .int (nI N)), (3, .int part)] [] (n, S, Mx, Lx, P) := by
        intro d
        induction d with
        | zero =>
          intro k ab Mx Lx hk hab hx
          refine JJ_iload dX12_chance_32 rfl ?_
          refine JJ_iload_n dX12_chance_34 rfl rfl ?_
          refine JJ_icmp_ge (tgt := 65) dX12_chance_35 (by decide) (fun _ => ?_) (fun c9 => absurd (nI_le (by omega) (by omega)) c9)
          refine JJ_lload dX12_chance_65 rfl ?_
          refine JJ_lstore (lv' := [(6, .long ab), (4, .long ab), (0, .ref o), (1, .int seed), (2, .int (nI N)), (3, .int part)]) dX12_chance_67 (by decide) rfl ?_
          refine JJ_iload_n dX12_chance_69 rfl rfl ?_
          refine JJ_i2l dX12_chance_70 ?_
          refine JJ_eql (x2 := nL N) (nL_w N (by omega)) ?_
          refine JJ_lstore (lv' := [(8, .long (nL N)), (6, .long ab), (4, .long ab), (0, .ref o), (1, .int seed), (2, .int (nI N)), (3, .int part)]) dX12_chance_71 (by decide) rfl ?_
          obtain rfl : k = N := by omega
          subst hab
          have hz20 := zabove_le (A := A) (seed := seed) k
          have hg1 : 0 < Nat.gcd (zabove A seed k) k := Nat.gcd_pos_of_pos_right _ hN1
          have key2 : ∀ (m b a : Nat), b ≤ m → a ≤ 20 → b ≤ 20 → Nat.gcd a b = Nat.gcd (zabove A seed k) k → JJ G sc yX12_chance cX12_chance 12 (some .long) 68 0 0 (qL o n S M P (zr_chance A seed (nI k) part)) 73 [(8, .long (nL b)), (6, .long (nL a)), (4, .long (nL (zabove A seed k))), (0, .ref o), (1, .int seed), (2, .int (nI k)), (3, .int part)] [] (n, S, Mx, Lx, P) := by
            intro m
            induction m with
            | zero =>
              intro b a hbm ha hb hgc
              refine JJ_lload dX12_chance_73 rfl ?_
              refine JJ_lconst (v := 0) dX12_chance_75 rfl ?_
              refine JJ_lcmp dX12_chance_76 ?_
              refine JJ_if_eq (tgt := 98) dX12_chance_77 (by decide) (fun c10 => ?_) (fun c10 => ?_)
              · skip
                have hb0 : b = 0 := (nL_0 b (by omega)).mp c10
                subst hb0
                have hag : a = Nat.gcd (zabove A seed k) k := (Nat.gcd_zero_right a).symm.trans hgc
                have ha0 : ¬ nL a = 0 := fun e => absurd ((nL_0 a (by omega)).mp (by rw [e]; rfl)) (by omega)
                refine JJ_iload_n dX12_chance_98 rfl rfl ?_
                refine JJ_if_ne (tgt := 110) dX12_chance_99 (by decide) (fun c11 => ?_) (fun c11 => ?_)
                · skip
                  refine JJ_iload_n dX12_chance_110 rfl rfl ?_
                  refine JJ_i2l dX12_chance_111 ?_
                  refine JJ_eql (x2 := nL k) (nL_w k (by omega)) ?_
                  refine JJ_lload dX12_chance_112 rfl ?_
                  refine JJ_ldiv dX12_chance_114 ha0 ?_
                  refine JJ_lret dX12_chance_115 rfl ?_
                  exact qL_r (by rw [e0, if_neg c11, ← hag]; exact nL_div _ (by omega) _ (by omega) (by omega)) hx
                · skip
                  refine JJ_lload dX12_chance_102 rfl ?_
                  refine JJ_lload dX12_chance_104 rfl ?_
                  refine JJ_ldiv dX12_chance_106 ha0 ?_
                  refine JJ_goto (tgt := 115) dX12_chance_107 (by decide) ?_
                  refine JJ_lret dX12_chance_115 rfl ?_
                  exact qL_r (by rw [e0, if_pos c11, ← hag]; exact nL_div _ (by omega) _ (by omega) (by omega)) hx
              · skip
                have hb0 : ¬ b = 0 := fun e => c10 ((nL_0 b (by omega)).mpr e)
                have hbz : ¬ nL b = 0 := fun e => hb0 ((nL_0 b (by omega)).mp (by rw [e]; rfl))
                refine JJ_lload dX12_chance_80 rfl ?_
                refine JJ_lload dX12_chance_82 rfl ?_
                refine JJ_lrem dX12_chance_84 hbz ?_
                refine JJ_lstore (lv' := [(10, .long ((nL a) - (nL a) / (nL b) * (nL b))), (8, .long (nL b)), (6, .long (nL a)), (4, .long (nL (zabove A seed k))), (0, .ref o), (1, .int seed), (2, .int (nI k)), (3, .int part)]) dX12_chance_85 (by decide) rfl ?_
                refine JJ_lload dX12_chance_87 rfl ?_
                refine JJ_lstore (lv' := [(6, .long (nL b)), (10, .long ((nL a) - (nL a) / (nL b) * (nL b))), (8, .long (nL b)), (4, .long (nL (zabove A seed k))), (0, .ref o), (1, .int seed), (2, .int (nI k)), (3, .int part)]) dX12_chance_89 (by decide) rfl ?_
                refine JJ_lload dX12_chance_91 rfl ?_
                refine JJ_lstore (lv' := [(8, .long ((nL a) - (nL a) / (nL b) * (nL b))), (6, .long (nL b)), (10, .long ((nL a) - (nL a) / (nL b) * (nL b))), (4, .long (nL (zabove A seed k))), (0, .ref o), (1, .int seed), (2, .int (nI k)), (3, .int part)]) dX12_chance_93 (by decide) rfl ?_
                refine JJ_goto (tgt := 73) dX12_chance_95 (by decide) ?_
                refine JJ.pick [0, 1, 3, 4, 5, 6, 7] rfl ?_
                exact absurd (Nat.le_zero.mp hbm) hb0
            | succ m ihm =>
              intro b a hbm ha hb hgc
              refine JJ_lload dX12_chance_73 rfl ?_
              refine JJ_lconst (v := 0) dX12_chance_75 rfl ?_
              refine JJ_lcmp dX12_chance_76 ?_
              refine JJ_if_eq (tgt := 98) dX12_chance_77 (by decide) (fun c12 => ?_) (fun c12 => ?_)
              · skip
                have hb0 : b = 0 := (nL_0 b (by omega)).mp c12
                subst hb0
                have hag : a = Nat.gcd (zabove A seed k) k := (Nat.gcd_zero_right a).symm.trans hgc
                have ha0 : ¬ nL a = 0 := fun e => absurd ((nL_0 a (by omega)).mp (by rw [e]; rfl)) (by omega)
                refine JJ_iload_n dX12_chance_98 rfl rfl ?_
                refine JJ_if_ne (tgt := 110) dX12_chance_99 (by decide) (fun c13 => ?_) (fun c13 => ?_)
                · skip
                  refine JJ_iload_n dX12_chance_110 rfl rfl ?_
                  refine JJ_i2l dX12_chance_111 ?_
                  refine JJ_eql (x2 := nL k) (nL_w k (by omega)) ?_
                  refine JJ_lload dX12_chance_112 rfl ?_
                  refine JJ_ldiv dX12_chance_114 ha0 ?_
                  refine JJ_lret dX12_chance_115 rfl ?_
                  exact qL_r (by rw [e0, if_neg c13, ← hag]; exact nL_div _ (by omega) _ (by omega) (by omega)) hx
                · skip
                  refine JJ_lload dX12_chance_102 rfl ?_
                  refine JJ_lload dX12_chance_104 rfl ?_
                  refine JJ_ldiv dX12_chance_106 ha0 ?_
                  refine JJ_goto (tgt := 115) dX12_chance_107 (by decide) ?_
                  refine JJ_lret dX12_chance_115 rfl ?_
                  exact qL_r (by rw [e0, if_pos c13, ← hag]; exact nL_div _ (by omega) _ (by omega) (by omega)) hx
              · skip
                have hb0 : ¬ b = 0 := fun e => c12 ((nL_0 b (by omega)).mpr e)
                have hbz : ¬ nL b = 0 := fun e => hb0 ((nL_0 b (by omega)).mp (by rw [e]; rfl))
                refine JJ_lload dX12_chance_80 rfl ?_
                refine JJ_lload dX12_chance_82 rfl ?_
                refine JJ_lrem dX12_chance_84 hbz ?_
                refine JJ_lstore (lv' := [(10, .long ((nL a) - (nL a) / (nL b) * (nL b))), (8, .long (nL b)), (6, .long (nL a)), (4, .long (nL (zabove A seed k))), (0, .ref o), (1, .int seed), (2, .int (nI k)), (3, .int part)]) dX12_chance_85 (by decide) rfl ?_
                refine JJ_lload dX12_chance_87 rfl ?_
                refine JJ_lstore (lv' := [(6, .long (nL b)), (10, .long ((nL a) - (nL a) / (nL b) * (nL b))), (8, .long (nL b)), (4, .long (nL (zabove A seed k))), (0, .ref o), (1, .int seed), (2, .int (nI k)), (3, .int part)]) dX12_chance_89 (by decide) rfl ?_
                refine JJ_lload dX12_chance_91 rfl ?_
                refine JJ_lstore (lv' := [(8, .long ((nL a) - (nL a) / (nL b) * (nL b))), (6, .long (nL b)), (10, .long ((nL a) - (nL a) / (nL b) * (nL b))), (4, .long (nL (zabove A seed k))), (0, .ref o), (1, .int seed), (2, .int (nI k)), (3, .int part)]) dX12_chance_93 (by decide) rfl ?_
                refine JJ_goto (tgt := 73) dX12_chance_95 (by decide) ?_
                refine JJ.pick [0, 1, 3, 4, 5, 6, 7] rfl ?_
                rw [nL_rem a (by omega) b (by omega) hb0]
                exact ihm (a % b) b (by have := Nat.mod_lt a (Nat.pos_of_ne_zero hb0); omega) hb (by have := Nat.mod_lt a (Nat.pos_of_ne_zero hb0); omega) (by rw [Nat.gcd_comm b, ← Nat.gcd_rec, Nat.gcd_comm]; exact hgc)
          refine JJ.pick [0, 1, 2, 3, 4, 5, 6] rfl ?_
          exact key2 k k (zabove A seed k) (Nat.le_refl _) (by omega) (by omega) rfl
        | succ d ihd =>
          intro k ab Mx Lx hk hab hx
          refine JJ_iload dX12_chance_32 rfl ?_
          refine JJ_iload_n dX12_chance_34 rfl rfl ?_
          refine JJ_icmp_ge (tgt := 65) dX12_chance_35 (by decide) (fun c14 => absurd c14 (nI_ge (by omega) (by omega))) (fun _ => ?_)
          refine JJ_lload dX12_chance_38 rfl ?_
          refine JJ_aload_n dX12_chance_40 rfl rfl ?_
          refine JJ_iload_n dX12_chance_41 rfl rfl ?_
          refine JJ_iload dX12_chance_42 rfl ?_
          refine JJ_iadd dX12_chance_44 ?_
          refine JJ_callV (rest := [.long ab]) hR.1 rfl rfl (kr_draws (seed := seed + nI k) (hA.keep hx) hg hR hN) (by decide) mi_X12_draws lk_X12_359 rfl (Nat.le_of_ble_eq_true rfl) rfl rfl dX12_chance_45 ?_
          intro v15 μ16 h17
          obtain ⟨rfl, Mc, Lc, rfl, hfr⟩ := h17
          refine JJ_r1 ?_
          refine JJ_if_ne (tgt := 55) dX12_chance_48 (by decide) (fun c18 => ?_) (fun c18 => ?_)
          · skip
            refine JJ_lconst (v := 0) dX12_chance_55 rfl ?_
            refine JJ_ladd dX12_chance_56 ?_
            refine JJ_lstore (lv' := [(4, .long (ab + 0)), (6, .int (nI k)), (0, .ref o), (1, .int seed), (2, .int (nI N)), (3, .int part)]) dX12_chance_57 (by decide) rfl ?_
            refine JJ_iinc (v := nI (k + 1)) (lv' := [(6, .int (nI (k + 1))), (4, .long (ab + 0)), (0, .ref o), (1, .int seed), (2, .int (nI N)), (3, .int part)]) dX12_chance_59 rfl (nI_add (k) 1) (by decide) rfl ?_
            refine JJ_goto (tgt := 32) dX12_chance_62 (by decide) ?_
            refine JJ.pick [0, 1, 2, 3, 4, 5] rfl ?_
            exact ihd (k + 1) _ Mc Lc (by omega) (by rw [hab, zabove_0 c18]; exact Int64.add_zero _) (fun b k z => (hfr b k z).trans (hx b k z))
          · skip
            refine JJ_lconst (v := 1) dX12_chance_51 rfl ?_
            refine JJ_goto (tgt := 56) dX12_chance_52 (by decide) ?_
            refine JJ_ladd dX12_chance_56 ?_
            refine JJ_lstore (lv' := [(4, .long (ab + 1)), (6, .int (nI k)), (0, .ref o), (1, .int seed), (2, .int (nI N)), (3, .int part)]) dX12_chance_57 (by decide) rfl ?_
            refine JJ_iinc (v := nI (k + 1)) (lv' := [(6, .int (nI (k + 1))), (4, .long (ab + 1)), (0, .ref o), (1, .int seed), (2, .int (nI N)), (3, .int part)]) dX12_chance_59 rfl (nI_add (k) 1) (by decide) rfl ?_
            refine JJ_goto (tgt := 32) dX12_chance_62 (by decide) ?_
            refine JJ.pick [0, 1, 2, 3, 4, 5] rfl ?_
            exact ihd (k + 1) _ Mc Lc (by omega) (by rw [hab, zabove_1 c18]; exact nL_1 _ (Nat.lt_of_le_of_lt (zabove_le k) (by omega))) (fun b k z => (hfr b k z).trans (hx b k z))
      refine JJ.pick [0, 1, 2, 3, 4, 5] rfl ?_
      exact key N 0 0 M L (by omega) rfl (fun _ _ _ => rfl)
    · skip
      refine JJ_ldc2 (v := (-4611686018427387904)) dX12_chance_22 tb_1295 ?_
      refine JJ_lret dX12_chance_25 rfl ?_
      exact qL_r (if_pos (fun z => b2_0.mp c8 z.2)).symm (fun _ _ _ => rfl)
end REF9
