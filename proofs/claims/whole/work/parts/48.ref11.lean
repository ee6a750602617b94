section REF11
variable {G : Gx} {sc : Nat → Nat → Prop} {n : Nat} {S : Nat → Nat × Nat} {M : Nat → Nat → Int32} {L : Nat → Nat → Int64} {P : Nat → Nat → Option Nat} {o : Nat}

set_option maxHeartbeats 4000000 in
set_option maxRecDepth 100000 in
theorem kr_winsSo {k N : Nat} {who : Int32} (hr : RLY o M k N) {A : Abs} (hA : rABS o M A) (hg : RNG A) (hR : RWF o S P) (hN : HSR o sc) : KK G sc yX12_winsSo cX12_winsSo 3 (some .boolean) 64 0 0 [.ref o, .int (nI k), .int who] (n, S, M, L, P) (qI o n S M P (b2 (sr_wins (z_fin A k) = who))) := by
  refine KK_of2 [(0, .ref o), (1, .int (nI k)), (2, .int who)] (by decide +kernel) (Nat.le_of_ble_eq_true rfl) rfl ?_
  refine JJ_aload_n dX12_winsSo_0 rfl rfl ?_
  refine JJ_callV (rest := []) hR.1 rfl rfl (kr_layAside (a := 0) hA.as (by decide) hR hN) (by decide) mi_X12_layAside lk_X12_315 rfl (Nat.le_of_ble_eq_true rfl) rfl rfl dX12_winsSo_1 ?_
  intro v1 μ2 h3
  obtain ⟨rfl, Ma, rfl, hla⟩ := h3
  refine JJ_r0 ?_
  have hrA : RLY o Ma k N := ⟨hr.1, hr.2.1, by rw [laid_k hla (t := 17) (by decide) (by decide)]; exact hr.2.2.1, by rw [laid_k hla (t := 18) (by decide) (by decide)]; exact hr.2.2.2⟩
  have hcA : CVR o Ma := by unfold CVR; rw [laid_k hla (t := 4) (by decide) (by decide), laid_k hla (t := 7) (by decide) (by decide), laid_k hla (t := 10) (by decide) (by decide)]; exact hA.cvr hg
  have heA : RTX o Ma (zE A) := (hA.rtx hg).keep (laid_k hla (t := 1) (by decide) (by decide)) (laid_k hla (t := 2) (by decide) (by decide)) (hla.2.2.2.2 o 4 (by omega) (by omega))
  refine JJ_aload_n dX12_winsSo_4 rfl rfl ?_
  refine JJ_iload_n dX12_winsSo_5 rfl rfl ?_
  refine JJ_callV (rest := []) hR.1 rfl rfl (kr_rallies (E := zE A) (s := k) (N := N) hrA hcA hR hN heA) (by decide) mi_X12_rallies lk_X12_318 rfl (Nat.le_of_ble_eq_true rfl) rfl rfl dX12_winsSo_6 ?_
  intro v4 μ5 h6
  obtain ⟨rfl, Mb, Lb, rfl, hin⟩ := h6
  refine JJ_r0 ?_
  obtain ⟨ist, i34, i35, i36, i37, ibl⟩ := ral_A hA hr (laid_a hla) (hla.2.2.2.2 o 11 (by omega) (by omega)) rfl hin
  refine JJ_aload_n dX12_winsSo_9 rfl rfl ?_
  refine JJ_callV (rest := []) hR.1 rfl rfl (kr_takeBack (a := 0) (lr33 hla hin) (by decide) hR hN) (by decide) mi_X12_takeBack lk_X12_322 rfl (Nat.le_of_ble_eq_true rfl) rfl rfl dX12_winsSo_10 ?_
  intro v7 μ8 h9
  obtain ⟨rfl, Mc, rfl, htk⟩ := h9
  refine JJ_r0 ?_
  have hfr := lrt hla hin htk hA.as
  refine JJ_aload_n dX12_winsSo_13 rfl rfl ?_
  refine JJ_geti (v := sr_wins (z_fin A k)) (cis := [12]) (k := 34) fa_X12_286 (by decide) hR.1 rfl (hN.1 34 (by decide)) ((htk.2.2.2.2 _ _ (by omega) (by omega) (by omega)).trans i34) dX12_winsSo_14 ?_
  refine JJ_iload_n dX12_winsSo_17 rfl rfl ?_
  refine JJ_icmp_ne (tgt := 25) dX12_winsSo_18 (by decide) (fun c10 => ?_) (fun c10 => ?_)
  · skip
    refine JJ_iconst (v := 0) dX12_winsSo_25 rfl ?_
    refine JJ_zret dX12_winsSo_26 rfl (Or.inl rfl) ?_
    exact qI_r ((b2_f c10).symm) hfr
  · skip
    refine JJ_iconst (v := 1) dX12_winsSo_21 rfl ?_
    refine JJ_goto (tgt := 26) dX12_winsSo_22 (by decide) ?_
    refine JJ_zret dX12_winsSo_26 rfl (Or.inr rfl) ?_
    exact qI_r ((b2_t c10).symm) hfr
set_option maxHeartbeats 4000000 in
set_option maxRecDepth 100000 in
theorem kr_tries2 {v : Int32} (hR : RWF o S P) (hN : HSR o sc) : KK G sc yX12_tries cX12_tries 3 none 0 0 0 [.ref o, .int (nI 2), .int v] (n, S, M, L, P) (ansV (n, S, up2 M o 4 v, L, P)) := by
  refine KK_of2 [(0, .ref o), (1, .int (nI 2)), (2, .int v)] (by decide +kernel) (Nat.le_of_ble_eq_true rfl) rfl ?_
  refine JJ_iload_n dX12_tries_0 rfl rfl ?_
  refine JJ_iconst (v := 2) dX12_tries_1 rfl ?_
  refine JJ_icmp_ne (tgt := 13) dX12_tries_2 (by decide) (fun c1 => absurd (show nI 2 = 2 from rfl) c1) (fun _ => ?_)
  refine JJ_aload_n dX12_tries_5 rfl rfl ?_
  refine JJ_iload_n dX12_tries_6 rfl rfl ?_
  refine JJ_puti (cis := [12]) (k := 4) fa_X12_239 (by decide) hR.1 rfl (fun r hr => by cases hr; exact ⟨rfl, by decide +kernel⟩) dX12_tries_7 (fun M2 hM3 => ?_)
  refine JJ_goto (tgt := 20) dX12_tries_10 (by decide) ?_
  refine JJ_vret dX12_tries_20 rfl ?_
  exact ⟨rfl, mem_eq hM3⟩
set_option maxHeartbeats 4000000 in
set_option maxRecDepth 100000 in
theorem kr_tries {p : Nat} {v : Int32} (hp : p < 2) (hR : RWF o S P) (hN : HSR o sc) : KK G sc yX12_tries cX12_tries 3 none 0 0 0 [.ref o, .int (nI p), .int v] (n, S, M, L, P) (ansV (n, S, up2 M (o + 6) p v, L, P)) := by
  refine KK_of2 [(0, .ref o), (1, .int (nI p)), (2, .int v)] (by decide +kernel) (Nat.le_of_ble_eq_true rfl) rfl ?_
  refine JJ_iload_n dX12_tries_0 rfl rfl ?_
  refine JJ_iconst (v := 2) dX12_tries_1 rfl ?_
  refine JJ_icmp_ne (tgt := 13) dX12_tries_2 (by decide) (fun _ => ?_) (fun c1 => absurd c1 (fun e => absurd (nI_inj (b := 2) (by omega) (by omega) e) (by omega)))
  refine JJ_aload_n dX12_tries_13 rfl rfl ?_
  refine JJ_getr (q := o + 6) (cis := [12]) (k := 9) fa_X12_29 (by decide) hR.1 rfl (hR.2 (9, 6, 20, 2) (by decide)).1 dX12_tries_14 ?_
  refine JJ_iload_n dX12_tries_17 rfl rfl ?_
  refine JJ_iload_n dX12_tries_18 rfl rfl ?_
  refine JJ_iastX (hR.2 (9, 6, 20, 2) (by decide)).2 (IX_nI (by omega) (by omega)) dX12_tries_19 (fun M2 hM3 => ?_)
  refine JJ_vret dX12_tries_20 rfl ?_
  exact ⟨rfl, mem_eq hM3⟩
set_option maxHeartbeats 4000000 in
set_option maxRecDepth 100000 in
theorem kr_quicks {s what who : Int32} {A : Abs} (hA : rABS o M A) (hg : RNG A) (hR : RWF o S P) (hN : HSR o sc) : KK G sc yX12_quicks cX12_quicks 8 (some .int) 70 0 0 [.ref o, .int s, .int what, .int who] (n, S, M, L, P) (qI o n S M P (zr_quicks A s what who)) := by
  refine KK_of2 [(0, .ref o), (1, .int s), (2, .int what), (3, .int who)] (by decide +kernel) (Nat.le_of_ble_eq_true rfl) rfl ?_
  refine JJ_iload_n dX12_quicks_0 rfl rfl ?_
  refine JJ_callS (rest := []) (kr_isSheet (v := s)) (by decide) mi_X12_isSheet lk_X12_309 rfl (Nat.le_of_ble_eq_true rfl) rfl rfl dX12_quicks_1 ?_
  intro v1 μ2 h3
  obtain ⟨rfl, rfl⟩ := h3
  refine JJ_r1 ?_
  refine JJ_if_eq (tgt := 31) dX12_quicks_4 (by decide) (fun c4 => ?_) (fun c4 => ?_)
  · skip
    refine JJ_bipush (v := (-2)) dX12_quicks_31 rfl ?_
    refine JJ_iret dX12_quicks_33 rfl ?_
    exact qI_n (if_pos (fun z => b2_0.mp c4 z.1)).symm
  · skip
    refine JJ_iload_n dX12_quicks_7 rfl rfl ?_
    refine JJ_i2l dX12_quicks_8 ?_
    refine JJ_lconst (v := 0) dX12_quicks_9 rfl ?_
    refine JJ_ldc2 (v := 2) dX12_quicks_10 tb_1337 ?_
    refine JJ_callS (rest := []) (kr_in32 (v := what) (lo := 0) (hi := 2) (a := 0) (b := 2) rfl rfl) (by decide) mi_X12_in lk_X12_82 rfl (Nat.le_of_ble_eq_true rfl) rfl rfl dX12_quicks_13 ?_
    intro v5 μ6 h7
    obtain ⟨rfl, rfl⟩ := h7
    refine JJ_r1 ?_
    refine JJ_if_eq (tgt := 31) dX12_quicks_16 (by decide) (fun c8 => ?_) (fun c8 => ?_)
    · skip
      refine JJ_bipush (v := (-2)) dX12_quicks_31 rfl ?_
      refine JJ_iret dX12_quicks_33 rfl ?_
      exact qI_n (if_pos (fun z => b2_0.mp c8 z.2.1)).symm
    · skip
      refine JJ_iload_n dX12_quicks_19 rfl rfl ?_
      refine JJ_i2l dX12_quicks_20 ?_
      refine JJ_ldc2 (v := (-1)) dX12_quicks_21 tb_1104 ?_
      refine JJ_lconst (v := 1) dX12_quicks_24 rfl ?_
      refine JJ_callS (rest := []) (kr_in32 (v := who) (lo := (-1)) (hi := 1) (a := -1) (b := 1) rfl rfl) (by decide) mi_X12_in lk_X12_82 rfl (Nat.le_of_ble_eq_true rfl) rfl rfl dX12_quicks_25 ?_
      intro v9 μ10 h11
      obtain ⟨rfl, rfl⟩ := h11
      refine JJ_r1 ?_
      refine JJ_if_ne (tgt := 34) dX12_quicks_28 (by decide) (fun c12 => ?_) (fun c12 => ?_)
      · skip
        refine JJ_aload_n dX12_quicks_34 rfl rfl ?_
        refine JJ_iload_n dX12_quicks_35 rfl rfl ?_
        refine JJ_callV (rest := []) hR.1 rfl rfl (kr_rallyBad (A := A) (s := s) hA hg hR hN) (by decide) mi_X12_rallyBad lk_X12_312 rfl (Nat.le_of_ble_eq_true rfl) rfl rfl dX12_quicks_36 ?_
        intro v13 μ14 h15
        obtain ⟨rfl, rfl⟩ := h15
        refine JJ_r1 ?_
        refine JJ_istore (lv' := [(4, .int (z_rb A s)), (0, .ref o), (1, .int s), (2, .int what), (3, .int who)]) dX12_quicks_39 (by decide) rfl ?_
        refine JJ_iload dX12_quicks_41 rfl ?_
        refine JJ_if_eq (tgt := 49) dX12_quicks_43 (by decide) (fun c16 => ?_) (fun c16 => ?_)
        · skip
          have hrb := c16
          obtain ⟨k, N, rfl, hr⟩ := rb_rly (hA.shi hg) ((hA.rb hg _).trans hrb)
          have hk4 := hr.1
          obtain ⟨q, hq2, rfl⟩ := n_of (m := 2) (by decide) (b2_n.mp c8)
          have e0 : zr_quicks A (nI k) (nI q) who = zbits (fun v => sr_wins (z_fin (zSet A q (nI v)) k) = who) (if nI q = 2 then i2n (A.1 10 0) else 10) := by
            unfold zr_quicks
            rw [if_neg (fun z => z ⟨b2_n.mp c4, b2_n.mp c8, b2_n.mp c12⟩), if_pos hrb, show i2n (nI k) = k from nI_clamp (by omega), show i2n (nI q) = q from nI_clamp (by omega)]
          have hg10 := hg.2.2.2.2.2
          by_cases h2 : q = 2
          · skip
            subst h2
            obtain ⟨cn, hc1, hc6, hce, r0, hr0, hre⟩ := hg10
            have hT : M o 3 = nI cn := hA.tc.trans hce
            have hci : i2n (A.1 10 0) = cn := by rw [hce]; exact nI_clamp (by omega)
            rw [if_pos (show nI 2 = 2 from rfl), hci] at e0
            refine JJ_iload_n dX12_quicks_49 rfl rfl ?_
            refine JJ_iconst (v := 2) dX12_quicks_50 rfl ?_
            refine JJ_icmp_ne (tgt := 61) dX12_quicks_51 (by decide) (fun c17 => absurd (show nI 2 = 2 from rfl) c17) (fun _ => ?_)
            refine JJ_aload_n dX12_quicks_54 rfl rfl ?_
            refine JJ_geti (v := M o 4) (cis := [12]) (k := 4) fa_X12_239 (by decide) hR.1 rfl (hN.1 4 (by decide)) rfl dX12_quicks_55 ?_
            refine JJ_goto (tgt := 67) dX12_quicks_58 (by decide) ?_
            refine JJ_istore (lv' := [(5, .int (M o 4)), (4, .int (z_rb A (nI k))), (0, .ref o), (1, .int (nI k)), (2, .int (nI 2)), (3, .int who)]) dX12_quicks_67 (by decide) rfl ?_
            refine JJ_iconst (v := 0) dX12_quicks_69 rfl ?_
            refine JJ_istore (lv' := [(6, .int 0), (5, .int (M o 4)), (4, .int (z_rb A (nI k))), (0, .ref o), (1, .int (nI k)), (2, .int (nI 2)), (3, .int who)]) dX12_quicks_70 (by decide) rfl ?_
            refine JJ_iconst (v := 0) dX12_quicks_72 rfl ?_
            refine JJ_istore (lv' := [(7, .int 0), (6, .int 0), (5, .int (M o 4)), (4, .int (z_rb A (nI k))), (0, .ref o), (1, .int (nI k)), (2, .int (nI 2)), (3, .int who)]) dX12_quicks_73 (by decide) rfl ?_
            have key : ∀ (e v : Nat) (bi : Int32) (Mx : Nat → Nat → Int32) (Lx : Nat → Nat → Int64), v + e = cn → bi = zbits (fun v => sr_wins (z_fin (zSet A 2 (nI v)) k) = who) v → (∀ b k, ¬ TD o b k → ¬ (b = o ∧ k = 4) → Mx b k = M b k) → JJ G sc yX12_quicks cX12_quicks 8 (some .int) 70 0 0 (qI o n S M P (zr_quicks A (nI k) (nI 2) who)) 75 [(7, .int (nI v)), (6, .int bi), (5, .int (M o 4)), (0, .ref o), (1, .int (nI k)), (2, .int (nI 2)), (3, .int who)] [] (n, S, Mx, Lx, P) := by
              intro e
              induction e with
              | zero =>
                intro v bi Mx Lx hk hbi hx
                refine JJ_iload dX12_quicks_75 rfl ?_
                refine JJ_iload_n dX12_quicks_77 rfl rfl ?_
                refine JJ_iconst (v := 2) dX12_quicks_78 rfl ?_
                refine JJ_icmp_ne (tgt := 89) dX12_quicks_79 (by decide) (fun c18 => absurd (show nI 2 = 2 from rfl) c18) (fun _ => ?_)
                refine JJ_aload_n dX12_quicks_82 rfl rfl ?_
                refine JJ_geti (v := nI cn) (cis := [12]) (k := 3) fa_X12_76 (by decide) hR.1 rfl (hN.1 3 (by decide)) ((hx _ _ (by unfold TD; omega) (by omega)).trans hT) dX12_quicks_83 ?_
                refine JJ_goto (tgt := 91) dX12_quicks_86 (by decide) ?_
                refine JJ_icmp_ge (tgt := 129) dX12_quicks_91 (by decide) (fun _ => ?_) (fun c19 => absurd (nI_le (by omega) (by omega)) c19)
                refine JJ_aload_n dX12_quicks_129 rfl rfl ?_
                refine JJ_iload_n dX12_quicks_130 rfl rfl ?_
                refine JJ_iload dX12_quicks_131 rfl ?_
                refine JJ_callV (rest := []) hR.1 rfl rfl (kr_tries2 (v := M o 4) hR hN) (by decide) mi_X12_tries lk_X12_349 rfl (Nat.le_of_ble_eq_true rfl) rfl rfl dX12_quicks_133 ?_
                intro v20 μ21 h22
                obtain ⟨rfl, rfl⟩ := h22
                refine JJ_r0 ?_
                refine JJ_nm (fun Mz hMz => ?_)
                refine JJ_iload dX12_quicks_136 rfl ?_
                refine JJ_iret dX12_quicks_138 rfl ?_
                refine qI_r (by rw [e0, hbi, show v = cn by omega]) (fun b k z => ?_)
                rw [hMz]
                by_cases e : b = o ∧ k = 4
                · rw [e.1, e.2, up2_s]
                · rw [up2_n e]; exact hx b k z e
              | succ e ihe =>
                intro v bi Mx Lx hk hbi hx
                refine JJ_iload dX12_quicks_75 rfl ?_
                refine JJ_iload_n dX12_quicks_77 rfl rfl ?_
                refine JJ_iconst (v := 2) dX12_quicks_78 rfl ?_
                refine JJ_icmp_ne (tgt := 89) dX12_quicks_79 (by decide) (fun c23 => absurd (show nI 2 = 2 from rfl) c23) (fun _ => ?_)
                refine JJ_aload_n dX12_quicks_82 rfl rfl ?_
                refine JJ_geti (v := nI cn) (cis := [12]) (k := 3) fa_X12_76 (by decide) hR.1 rfl (hN.1 3 (by decide)) ((hx _ _ (by unfold TD; omega) (by omega)).trans hT) dX12_quicks_83 ?_
                refine JJ_goto (tgt := 91) dX12_quicks_86 (by decide) ?_
                refine JJ_icmp_ge (tgt := 129) dX12_quicks_91 (by decide) (fun c24 => absurd c24 (nI_ge (by omega) (by omega))) (fun _ => ?_)
                refine JJ_aload_n dX12_quicks_94 rfl rfl ?_
                refine JJ_iload_n dX12_quicks_95 rfl rfl ?_
                refine JJ_iload dX12_quicks_96 rfl ?_
                refine JJ_callV (rest := []) hR.1 rfl rfl (kr_tries2 (v := nI v) hR hN) (by decide) mi_X12_tries lk_X12_349 rfl (Nat.le_of_ble_eq_true rfl) rfl rfl dX12_quicks_98 ?_
                intro v25 μ26 h27
                obtain ⟨rfl, rfl⟩ := h27
                refine JJ_r0 ?_
                refine JJ_nm (fun Mt hMt => ?_)
                have hAt : rABS o Mt (zSet A 2 (nI v)) := zset_abs2 hA hx hMt
                have hft : ∀ b k, ¬ TD o b k → ¬ (b = o ∧ k = 4) → Mt b k = M b k := fun b k z1 z2 => (rd_n hMt (by omega) rfl).trans (hx b k z1 z2)
                have hgt : RNG (zSet A 2 (nI v)) := rng_set hg (fun _ => ⟨v, by omega, rfl⟩)
                have hrt : RLY o Mt k N := ⟨hr.1, hr.2.1, (hft _ _ (by unfold TD; omega) (by omega)).trans hr.2.2.1, fun j hj => by rw [hft _ _ (by unfold TD; omega) (by omega)]; exact hr.2.2.2 j hj⟩
                refine JJ_iload dX12_quicks_101 rfl ?_
                refine JJ_aload_n dX12_quicks_103 rfl rfl ?_
                refine JJ_iload_n dX12_quicks_104 rfl rfl ?_
                refine JJ_iload_n dX12_quicks_105 rfl rfl ?_
                refine JJ_callV (rest := [.int bi]) hR.1 rfl rfl (kr_winsSo (who := who) hrt hAt hgt hR hN) (by decide) mi_X12_winsSo lk_X12_352 rfl (Nat.le_of_ble_eq_true rfl) rfl rfl dX12_quicks_106 ?_
                intro v28 μ29 h30
                obtain ⟨rfl, Mc, Lc, rfl, hfr⟩ := h30
                refine JJ_r1 ?_
                refine JJ_if_eq (tgt := 116) dX12_quicks_109 (by decide) (fun c31 => ?_) (fun c31 => ?_)
                · skip
                  refine JJ_iconst (v := 0) dX12_quicks_116 rfl ?_
                  refine JJ_iload dX12_quicks_117 rfl ?_
                  refine JJ_ishl dX12_quicks_119 ?_
                  refine JJ_ior dX12_quicks_120 ?_
                  refine JJ_istore (lv' := [(6, .int (bi ||| (0 <<< ((nI v) &&& 31)))), (7, .int (nI v)), (5, .int (M o 4)), (0, .ref o), (1, .int (nI k)), (2, .int (nI 2)), (3, .int who)]) dX12_quicks_121 (by decide) rfl ?_
                  refine JJ_iinc (v := nI (v + 1)) (lv' := [(7, .int (nI (v + 1))), (6, .int (bi ||| (0 <<< ((nI v) &&& 31)))), (5, .int (M o 4)), (0, .ref o), (1, .int (nI k)), (2, .int (nI 2)), (3, .int who)]) dX12_quicks_123 rfl (nI_add (v) 1) (by decide) rfl ?_
                  refine JJ_goto (tgt := 75) dX12_quicks_126 (by decide) ?_
                  refine JJ.pick [0, 1, 2, 3, 4, 5, 6] rfl ?_
                  exact ihe (v + 1) _ Mc Lc (by omega) (by rw [hbi, zbits_0 (f := (fun v => sr_wins (z_fin (zSet A 2 (nI v)) k) = who)) (b2_0.mp c31)]) (fun b k z1 z2 => (hfr b k z1).trans (hft b k z1 z2))
                · skip
                  refine JJ_iconst (v := 1) dX12_quicks_112 rfl ?_
                  refine JJ_goto (tgt := 117) dX12_quicks_113 (by decide) ?_
                  refine JJ_iload dX12_quicks_117 rfl ?_
                  refine JJ_ishl dX12_quicks_119 ?_
                  refine JJ_ior dX12_quicks_120 ?_
                  refine JJ_istore (lv' := [(6, .int (bi ||| (1 <<< ((nI v) &&& 31)))), (7, .int (nI v)), (5, .int (M o 4)), (0, .ref o), (1, .int (nI k)), (2, .int (nI 2)), (3, .int who)]) dX12_quicks_121 (by decide) rfl ?_
                  refine JJ_iinc (v := nI (v + 1)) (lv' := [(7, .int (nI (v + 1))), (6, .int (bi ||| (1 <<< ((nI v) &&& 31)))), (5, .int (M o 4)), (0, .ref o), (1, .int (nI k)), (2, .int (nI 2)), (3, .int who)]) dX12_quicks_123 rfl (nI_add (v) 1) (by decide) rfl ?_
                  refine JJ_goto (tgt := 75) dX12_quicks_126 (by decide) ?_
                  refine JJ.pick [0, 1, 2, 3, 4, 5, 6] rfl ?_
                  exact ihe (v + 1) _ Mc Lc (by omega) (by rw [hbi, zbits_1 (f := (fun v => sr_wins (z_fin (zSet A 2 (nI v)) k) = who)) (b2_n.mp c31)]) (fun b k z1 z2 => (hfr b k z1).trans (hft b k z1 z2))
            refine JJ.pick [0, 1, 2, 4, 5, 6, 7] rfl ?_
            exact key cn 0 0 M L (by omega) rfl (fun _ _ _ _ => rfl)
          · skip
            have hq : q < 2 := by omega
            have hq2n : ¬ nI q = 2 := fun e => h2 (nI_inj (b := 2) (by omega) (by omega) e)
            rw [if_neg hq2n] at e0
            refine JJ_iload_n dX12_quicks_49 rfl rfl ?_
            refine JJ_iconst (v := 2) dX12_quicks_50 rfl ?_
            refine JJ_icmp_ne (tgt := 61) dX12_quicks_51 (by decide) (fun _ => ?_) (fun c32 => absurd c32 hq2n)
            refine JJ_aload_n dX12_quicks_61 rfl rfl ?_
            refine JJ_getr (q := o + 6) (cis := [12]) (k := 9) fa_X12_29 (by decide) hR.1 rfl (hR.2 (9, 6, 20, 2) (by decide)).1 dX12_quicks_62 ?_
            refine JJ_iload_n dX12_quicks_65 rfl rfl ?_
            refine JJ_ialdX (v := M (o + 6) q) (hR.2 (9, 6, 20, 2) (by decide)).2 (IX_nI (by omega) (by omega)) (hN.2.1 6 _ (by decide) (by decide)) rfl dX12_quicks_66 ?_
            refine JJ_istore (lv' := [(5, .int (M (o + 6) q)), (4, .int (z_rb A (nI k))), (0, .ref o), (1, .int (nI k)), (2, .int (nI q)), (3, .int who)]) dX12_quicks_67 (by decide) rfl ?_
            refine JJ_iconst (v := 0) dX12_quicks_69 rfl ?_
            refine JJ_istore (lv' := [(6, .int 0), (5, .int (M (o + 6) q)), (4, .int (z_rb A (nI k))), (0, .ref o), (1, .int (nI k)), (2, .int (nI q)), (3, .int who)]) dX12_quicks_70 (by decide) rfl ?_
            refine JJ_iconst (v := 0) dX12_quicks_72 rfl ?_
            refine JJ_istore (lv' := [(7, .int 0), (6, .int 0), (5, .int (M (o + 6) q)), (4, .int (z_rb A (nI k))), (0, .ref o), (1, .int (nI k)), (2, .int (nI q)), (3, .int who)]) dX12_quicks_73 (by decide) rfl ?_
            have key : ∀ (e v : Nat) (bi : Int32) (Mx : Nat → Nat → Int32) (Lx : Nat → Nat → Int64), v + e = 10 → bi = zbits (fun v => sr_wins (z_fin (zSet A q (nI v)) k) = who) v → (∀ b k, ¬ TD o b k → ¬ (b = o + 6 ∧ k = q) → Mx b k = M b k) → JJ G sc yX12_quicks cX12_quicks 8 (some .int) 70 0 0 (qI o n S M P (zr_quicks A (nI k) (nI q) who)) 75 [(7, .int (nI v)), (6, .int bi), (5, .int (M (o + 6) q)), (0, .ref o), (1, .int (nI k)), (2, .int (nI q)), (3, .int who)] [] (n, S, Mx, Lx, P) := by
              intro e
              induction e with
              | zero =>
                intro v bi Mx Lx hk hbi hx
                refine JJ_iload dX12_quicks_75 rfl ?_
                refine JJ_iload_n dX12_quicks_77 rfl rfl ?_
                refine JJ_iconst (v := 2) dX12_quicks_78 rfl ?_
                refine JJ_icmp_ne (tgt := 89) dX12_quicks_79 (by decide) (fun _ => ?_) (fun c33 => absurd c33 hq2n)
                refine JJ_bipush (v := 10) dX12_quicks_89 rfl ?_
                refine JJ_icmp_ge (tgt := 129) dX12_quicks_91 (by decide) (fun _ => ?_) (fun c34 => absurd (nI_le (a := 10) (by omega) (by omega)) c34)
                refine JJ_aload_n dX12_quicks_129 rfl rfl ?_
                refine JJ_iload_n dX12_quicks_130 rfl rfl ?_
                refine JJ_iload dX12_quicks_131 rfl ?_
                refine JJ_callV (rest := []) hR.1 rfl rfl (kr_tries (v := M (o + 6) q) hq hR hN) (by decide) mi_X12_tries lk_X12_349 rfl (Nat.le_of_ble_eq_true rfl) rfl rfl dX12_quicks_133 ?_
                intro v35 μ36 h37
                obtain ⟨rfl, rfl⟩ := h37
                refine JJ_r0 ?_
                refine JJ_nm (fun Mz hMz => ?_)
                refine JJ_iload dX12_quicks_136 rfl ?_
                refine JJ_iret dX12_quicks_138 rfl ?_
                refine qI_r (by rw [e0, hbi, show v = 10 by omega]) (fun b k z => ?_)
                rw [hMz]
                by_cases e : b = o + 6 ∧ k = q
                · rw [e.1, e.2, up2_s]
                · rw [up2_n e]; exact hx b k z e
              | succ e ihe =>
                intro v bi Mx Lx hk hbi hx
                refine JJ_iload dX12_quicks_75 rfl ?_
                refine JJ_iload_n dX12_quicks_77 rfl rfl ?_
                refine JJ_iconst (v := 2) dX12_quicks_78 rfl ?_
                refine JJ_icmp_ne (tgt := 89) dX12_quicks_79 (by decide) (fun _ => ?_) (fun c38 => absurd c38 hq2n)
                refine JJ_bipush (v := 10) dX12_quicks_89 rfl ?_
                refine JJ_icmp_ge (tgt := 129) dX12_quicks_91 (by decide) (fun c39 => absurd c39 (nI_ge (b := 10) (by omega) (by omega))) (fun _ => ?_)
                refine JJ_aload_n dX12_quicks_94 rfl rfl ?_
                refine JJ_iload_n dX12_quicks_95 rfl rfl ?_
                refine JJ_iload dX12_quicks_96 rfl ?_
                refine JJ_callV (rest := []) hR.1 rfl rfl (kr_tries (v := nI v) hq hR hN) (by decide) mi_X12_tries lk_X12_349 rfl (Nat.le_of_ble_eq_true rfl) rfl rfl dX12_quicks_98 ?_
                intro v40 μ41 h42
                obtain ⟨rfl, rfl⟩ := h42
                refine JJ_r0 ?_
                refine JJ_nm (fun Mt hMt => ?_)
                have hAt : rABS o Mt (zSet A q (nI v)) := zset_abs (by omega) hA hx hMt
                have hft : ∀ b k, ¬ TD o b k → ¬ (b = o + 6 ∧ k = q) → Mt b k = M b k := fun b k z1 z2 => (rd_n hMt (by omega) rfl).trans (hx b k z1 z2)
                have hgt : RNG (zSet A q (nI v)) := rng_set hg (fun e => absurd e (by omega))
                have hrt : RLY o Mt k N := ⟨hr.1, hr.2.1, (hft _ _ (by unfold TD; omega) (by omega)).trans hr.2.2.1, fun j hj => by rw [hft _ _ (by unfold TD; omega) (by omega)]; exact hr.2.2.2 j hj⟩
                refine JJ_iload dX12_quicks_101 rfl ?_
                refine JJ_aload_n dX12_quicks_103 rfl rfl ?_
                refine JJ_iload_n dX12_quicks_104 rfl rfl ?_
                refine JJ_iload_n dX12_quicks_105 rfl rfl ?_
                refine JJ_callV (rest := [.int bi]) hR.1 rfl rfl (kr_winsSo (who := who) hrt hAt hgt hR hN) (by decide) mi_X12_winsSo lk_X12_352 rfl (Nat.le_of_ble_eq_true rfl) rfl rfl dX12_quicks_106 ?_
                intro v43 μ44 h45
                obtain ⟨rfl, Mc, Lc, rfl, hfr⟩ := h45
                refine JJ_r1 ?_
                refine JJ_if_eq (tgt := 116) dX12_quicks_109 (by decide) (fun c46 => ?_) (fun c46 => ?_)
                · skip
                  refine JJ_iconst (v := 0) dX12_quicks_116 rfl ?_
                  refine JJ_iload dX12_quicks_117 rfl ?_
                  refine JJ_ishl dX12_quicks_119 ?_
                  refine JJ_ior dX12_quicks_120 ?_
                  refine JJ_istore (lv' := [(6, .int (bi ||| (0 <<< ((nI v) &&& 31)))), (7, .int (nI v)), (5, .int (M (o + 6) q)), (0, .ref o), (1, .int (nI k)), (2, .int (nI q)), (3, .int who)]) dX12_quicks_121 (by decide) rfl ?_
                  refine JJ_iinc (v := nI (v + 1)) (lv' := [(7, .int (nI (v + 1))), (6, .int (bi ||| (0 <<< ((nI v) &&& 31)))), (5, .int (M (o + 6) q)), (0, .ref o), (1, .int (nI k)), (2, .int (nI q)), (3, .int who)]) dX12_quicks_123 rfl (nI_add (v) 1) (by decide) rfl ?_
                  refine JJ_goto (tgt := 75) dX12_quicks_126 (by decide) ?_
                  refine JJ.pick [0, 1, 2, 3, 4, 5, 6] rfl ?_
                  exact ihe (v + 1) _ Mc Lc (by omega) (by rw [hbi, zbits_0 (f := (fun v => sr_wins (z_fin (zSet A q (nI v)) k) = who)) (b2_0.mp c46)]) (fun b k z1 z2 => (hfr b k z1).trans (hft b k z1 z2))
                · skip
                  refine JJ_iconst (v := 1) dX12_quicks_112 rfl ?_
                  refine JJ_goto (tgt := 117) dX12_quicks_113 (by decide) ?_
                  refine JJ_iload dX12_quicks_117 rfl ?_
                  refine JJ_ishl dX12_quicks_119 ?_
                  refine JJ_ior dX12_quicks_120 ?_
                  refine JJ_istore (lv' := [(6, .int (bi ||| (1 <<< ((nI v) &&& 31)))), (7, .int (nI v)), (5, .int (M (o + 6) q)), (0, .ref o), (1, .int (nI k)), (2, .int (nI q)), (3, .int who)]) dX12_quicks_121 (by decide) rfl ?_
                  refine JJ_iinc (v := nI (v + 1)) (lv' := [(7, .int (nI (v + 1))), (6, .int (bi ||| (1 <<< ((nI v) &&& 31)))), (5, .int (M (o + 6) q)), (0, .ref o), (1, .int (nI k)), (2, .int (nI q)), (3, .int who)]) dX12_quicks_123 rfl (nI_add (v) 1) (by decide) rfl ?_
                  refine JJ_goto (tgt := 75) dX12_quicks_126 (by decide) ?_
                  refine JJ.pick [0, 1, 2, 3, 4, 5, 6] rfl ?_
                  exact ihe (v + 1) _ Mc Lc (by omega) (by rw [hbi, zbits_1 (f := (fun v => sr_wins (z_fin (zSet A q (nI v)) k) = who)) (b2_n.mp c46)]) (fun b k z1 z2 => (hfr b k z1).trans (hft b k z1 z2))
            refine JJ.pick [0, 1, 2, 4, 5, 6, 7] rfl ?_
            exact key 10 0 0 M L (by omega) rfl (fun _ _ _ _ => rfl)
        · skip
          refine JJ_iload dX12_quicks_46 rfl ?_
          refine JJ_iret dX12_quicks_48 rfl ?_
          exact qI_n ((if_neg (fun z => z ⟨b2_n.mp c4, b2_n.mp c8, b2_n.mp c12⟩)).trans (if_neg c16)).symm
      · skip
        refine JJ_bipush (v := (-2)) dX12_quicks_31 rfl ?_
        refine JJ_iret dX12_quicks_33 rfl ?_
        exact qI_n (if_pos (fun z => b2_0.mp c12 z.2.2)).symm
end REF11
