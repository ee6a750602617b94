section REF10
variable {G : Gx} {sc : Nat → Nat → Prop} {n : Nat} {S : Nat → Nat × Nat} {M : Nat → Nat → Int32} {L : Nat → Nat → Int64} {P : Nat → Nat → Option Nat} {o : Nat}

set_option maxHeartbeats 4000000 in
set_option maxRecDepth 100000 in
theorem kr_goesOn {s N : Nat} (hs : s < 4) (hN4 : N ≤ 4) (hR : RWF o S P) (hN : HSR o sc) : ∀ (d t a : Nat) (dg : Int32) (M : Nat → Nat → Int32) (L : Nat → Nat → Int64) (A : Abs), t + d = N → a + 5 * d ≤ 60 → rABSg o a M A → RNG A → A.1 18 s = nI N → KK G sc yX12_goesOn cX12_goesOn 6 none (63 + d) 0 0 [.ref o, .int (nI s), .int (nI t), .int dg] (n, S, M, L, P) (fun v μ => v = none ∧ ∃ M' L', μ = (n, S, M', L', P) ∧ (M' o 40, M' o 41) = (zgo s d A t dg).foldl zst (M o 40, M o 41) ∧ ∀ b k, ¬ TDa o a b k → M' b k = M b k) := by
  intro d
  induction d with
  | zero =>
    intro t a dg M L A htd ha hA hg hNs
    refine KK_of2 [(0, .ref o), (1, .int (nI s)), (2, .int (nI t)), (3, .int dg)] (by decide +kernel) (Nat.le_of_ble_eq_true rfl) rfl ?_
    refine JJ_iload_n dX12_goesOn_0 rfl rfl ?_
    refine JJ_aload_n dX12_goesOn_1 rfl rfl ?_
    refine JJ_getr (q := o + 17) (cis := [12]) (k := 49) fa_X12_66 (by decide) hR.1 rfl (hR.2 (49, 17, 20, 4) (by decide)).1 dX12_goesOn_2 ?_
    refine JJ_iload_n dX12_goesOn_5 rfl rfl ?_
    refine JJ_ialdX (v := nI N) (hR.2 (49, 17, 20, 4) (by decide)).2 (IX_nI (by omega) (by omega)) (hN.2.1 17 _ (by decide) (by decide)) (hA.sz hs |>.trans hNs) dX12_goesOn_6 ?_
    refine JJ_icmp_ne (tgt := 41) dX12_goesOn_7 (by decide) (fun c1 => absurd (by rw [show t = N by omega]) c1) (fun _ => ?_)
    refine JJ_aload_n dX12_goesOn_10 rfl rfl ?_
    refine JJ_dup dX12_goesOn_11 rfl ?_
    refine JJ_geti (v := M o 40) (cis := [12]) (k := 40) fa_X12_337 (by decide) hR.1 rfl (hN.1 40 (by decide)) rfl dX12_goesOn_12 ?_
    refine JJ_iconst (v := 1) dX12_goesOn_15 rfl ?_
    refine JJ_iadd dX12_goesOn_16 ?_
    refine JJ_puti (cis := [12]) (k := 40) fa_X12_337 (by decide) hR.1 rfl (fun r hr => by cases hr; exact ⟨rfl, by decide +kernel⟩) dX12_goesOn_17 (fun M2 hM3 => ?_)
    refine JJ_aload_n dX12_goesOn_20 rfl rfl ?_
    refine JJ_aload_n dX12_goesOn_21 rfl rfl ?_
    refine JJ_geti (v := (M o 40) + 1) (cis := [12]) (k := 40) fa_X12_337 (by decide) hR.1 rfl (hN.1 40 (by decide)) (rd_s hM3) dX12_goesOn_22 ?_
    refine JJ_iconst (v := 1) dX12_goesOn_25 rfl ?_
    refine JJ_icmp_ne (tgt := 33) dX12_goesOn_26 (by decide) (fun c4 => ?_) (fun c4 => ?_)
    · skip
      refine JJ_aload_n dX12_goesOn_33 rfl rfl ?_
      refine JJ_geti (v := M o 41) (cis := [12]) (k := 41) fa_X12_340 (by decide) hR.1 rfl (hN.1 41 (by decide)) (rd_n hM3 (by omega) rfl) dX12_goesOn_34 ?_
      refine JJ_puti (cis := [12]) (k := 41) fa_X12_340 (by decide) hR.1 rfl (fun r hr => by cases hr; exact ⟨rfl, by decide +kernel⟩) dX12_goesOn_37 (fun M5 hM6 => ?_)
      refine JJ_vret dX12_goesOn_40 rfl ?_
      exact ⟨rfl, M5, L, rfl, by rw [(rd_n hM6 (by omega) (rd_s hM3)), (rd_s hM6)]; exact Prod.ext rfl (if_neg c4).symm, fun b k z => rd_n hM6 (by unfold TDa at z; omega) (rd_n hM3 (by unfold TDa at z; omega) (rfl))⟩
    · skip
      refine JJ_iload_n dX12_goesOn_29 rfl rfl ?_
      refine JJ_goto (tgt := 37) dX12_goesOn_30 (by decide) ?_
      refine JJ_puti (cis := [12]) (k := 41) fa_X12_340 (by decide) hR.1 rfl (fun r hr => by cases hr; exact ⟨rfl, by decide +kernel⟩) dX12_goesOn_37 (fun M7 hM8 => ?_)
      refine JJ_vret dX12_goesOn_40 rfl ?_
      exact ⟨rfl, M7, L, rfl, by rw [(rd_n hM8 (by omega) (rd_s hM3)), (rd_s hM8)]; exact Prod.ext rfl (if_pos c4).symm, fun b k z => rd_n hM8 (by unfold TDa at z; omega) (rd_n hM3 (by unfold TDa at z; omega) (rfl))⟩
  | succ d ih =>
    intro t a dg M L A htd ha hA hg hNs
    obtain ⟨cn, hc6, hcA, hcZ⟩ := cnt_e hg
    have ht2 : t % 2 < 2 := by omega
    refine KK_of2 [(0, .ref o), (1, .int (nI s)), (2, .int (nI t)), (3, .int dg)] (by decide +kernel) (Nat.le_of_ble_eq_true rfl) rfl ?_
    refine JJ_iload_n dX12_goesOn_0 rfl rfl ?_
    refine JJ_aload_n dX12_goesOn_1 rfl rfl ?_
    refine JJ_getr (q := o + 17) (cis := [12]) (k := 49) fa_X12_66 (by decide) hR.1 rfl (hR.2 (49, 17, 20, 4) (by decide)).1 dX12_goesOn_2 ?_
    refine JJ_iload_n dX12_goesOn_5 rfl rfl ?_
    refine JJ_ialdX (v := nI N) (hR.2 (49, 17, 20, 4) (by decide)).2 (IX_nI (by omega) (by omega)) (hN.2.1 17 _ (by decide) (by decide)) (hA.sz hs |>.trans hNs) dX12_goesOn_6 ?_
    refine JJ_icmp_ne (tgt := 41) dX12_goesOn_7 (by decide) (fun _ => ?_) (fun c9 => absurd c9 (fun e => absurd (nI_inj (by omega) (by omega) e) (by omega)))
    refine JJ_iconst (v := 0) dX12_goesOn_41 rfl ?_
    refine JJ_istore (lv' := [(4, .int 0), (0, .ref o), (1, .int (nI s)), (2, .int (nI t)), (3, .int dg)]) dX12_goesOn_42 (by decide) rfl ?_
    have key : ∀ (e k : Nat) (Mx : Nat → Nat → Int32) (Lx : Nat → Nat → Int64), k + e = cn → (zfl (zgf s d A t dg) e k).foldl zst (Mx o 40, Mx o 41) = (zgo s (d + 1) A t dg).foldl zst (M o 40, M o 41) → (∀ b k, ¬ TDa o a b k → Mx b k = M b k) → JJ G sc yX12_goesOn cX12_goesOn 6 none (63 + (d + 1)) 0 0 (fun v μ => v = none ∧ ∃ M' L', μ = (n, S, M', L', P) ∧ (M' o 40, M' o 41) = (zgo s (d + 1) A t dg).foldl zst (M o 40, M o 41) ∧ ∀ b k, ¬ TDa o a b k → M' b k = M b k) 44 [(4, .int (nI k)), (0, .ref o), (1, .int (nI s)), (2, .int (nI t)), (3, .int dg)] [] (n, S, Mx, Lx, P) := by
      intro e
      induction e with
      | zero =>
        intro k Mx Lx hk hl hx
        have hAx : rABSg o a Mx A := hA.keep (fun b k z => hx b k (fun q => z q.td))
        refine JJ_iload dX12_goesOn_44 rfl ?_
        refine JJ_aload_n dX12_goesOn_46 rfl rfl ?_
        refine JJ_geti (v := nI cn) (cis := [12]) (k := 15) fa_X12_79 (by decide) hR.1 rfl (hN.1 15 (by decide)) (hAx.cnt.trans hcA) dX12_goesOn_47 ?_
        refine JJ_icmp_ge (tgt := 140) dX12_goesOn_50 (by decide) (fun _ => ?_) (fun c10 => absurd (nI_le (by omega) (by omega)) c10)
        refine JJ_vret dX12_goesOn_140 rfl ?_
        exact ⟨rfl, Mx, Lx, rfl, hl, hx⟩
      | succ e ihe =>
        intro k Mx Lx hk hl hx
        have hAx : rABSg o a Mx A := hA.keep (fun b k z => hx b k (fun q => z q.td))
        refine JJ_iload dX12_goesOn_44 rfl ?_
        refine JJ_aload_n dX12_goesOn_46 rfl rfl ?_
        refine JJ_geti (v := nI cn) (cis := [12]) (k := 15) fa_X12_79 (by decide) hR.1 rfl (hN.1 15 (by decide)) (hAx.cnt.trans hcA) dX12_goesOn_47 ?_
        refine JJ_icmp_ge (tgt := 140) dX12_goesOn_50 (by decide) (fun c11 => absurd c11 (nI_ge (by omega) (by omega))) (fun _ => ?_)
        refine JJ_aload_n dX12_goesOn_53 rfl rfl ?_
        refine JJ_iload dX12_goesOn_54 rfl ?_
        refine JJ_aload_n dX12_goesOn_56 rfl rfl ?_
        refine JJ_getr (q := o + 4) (cis := [12]) (k := 7) fa_X12_23 (by decide) hR.1 rfl (hR.2 (7, 4, 20, 2) (by decide)).1 dX12_goesOn_57 ?_
        refine JJ_iload_n dX12_goesOn_60 rfl rfl ?_
        refine JJ_iconst (v := 2) dX12_goesOn_61 rfl ?_
        refine JJ_irem dX12_goesOn_62 (by decide) ?_
        refine JJ_eqi (x2 := nI (t % 2)) (pk_rem (a := t) (d := 2) (by omega) (by decide) (by decide)) ?_
        refine JJ_ialdX (v := A.1 0 (t % 2)) (hR.2 (7, 4, 20, 2) (by decide)).2 (IX_nI (by omega) (by omega)) (hN.2.1 4 _ (by decide) (by decide)) (hAx.c4 ht2) dX12_goesOn_63 ?_
        refine JJ_callV (rest := []) hR.1 rfl rfl (kr_comes (fr := A.1 0 (t % 2)) (by omega) hR hN) (by omega) mi_X12_comesTo lk_X12_252 rfl (Nat.le_of_ble_eq_true rfl) rfl rfl dX12_goesOn_64 ?_
        intro v12 μ13 h14
        obtain ⟨rfl, rfl⟩ := h14
        refine JJ_r1 ?_
        refine JJ_eqi (x2 := s_comes (A.1 5 k) (A.1 7 k) (A.1 0 (t % 2))) (by rw [(hAx.c8 (by omega)), (hAx.c10 (by omega))]) ?_
        refine JJ_aload_n dX12_goesOn_67 rfl rfl ?_
        refine JJ_getr (q := o + 18) (cis := [12]) (k := 50) fa_X12_69 (by decide) hR.1 rfl (hR.2 (50, 18, 20, 160) (by decide)).1 dX12_goesOn_68 ?_
        refine JJ_bipush (v := 40) dX12_goesOn_71 rfl ?_
        refine JJ_iload_n dX12_goesOn_73 rfl rfl ?_
        refine JJ_imul dX12_goesOn_74 ?_
        refine JJ_eqi (x2 := nI (40 * s)) (pk_mul (40) (s)) ?_
        refine JJ_iload_n dX12_goesOn_75 rfl rfl ?_
        refine JJ_iadd dX12_goesOn_76 ?_
        refine JJ_eqi (x2 := nI (40 * s + t)) (nI_add (40 * s) (t)) ?_
        refine JJ_ialdX (v := A.1 (20 + s) t) (hR.2 (50, 18, 20, 160) (by decide)).2 (IX_nI (by omega) (by omega)) (hN.2.1 18 _ (by decide) (by decide)) (hAx.im hs (by omega)) dX12_goesOn_77 ?_
        refine JJ_icmp_ne (tgt := 134) dX12_goesOn_78 (by decide) (fun c15 => ?_) (fun c15 => ?_)
        · skip
          refine JJ_iinc (v := nI (k + 1)) (lv' := [(4, .int (nI (k + 1))), (0, .ref o), (1, .int (nI s)), (2, .int (nI t)), (3, .int dg)]) dX12_goesOn_134 rfl (nI_add (k) 1) (by decide) rfl ?_
          refine JJ_goto (tgt := 44) dX12_goesOn_137 (by decide) ?_
          refine JJ.pick [0, 1, 2, 3, 4] rfl ?_
          exact ihe (k + 1) Mx Lx (by omega) (by rw [← hl, zfl_f, zgf_0 (fun z => c15 z.1)]; rfl) hx
        · skip
          refine JJ_aload_n dX12_goesOn_81 rfl rfl ?_
          refine JJ_callV (rest := []) hR.1 rfl rfl (kr_layAside (a := a) hAx.as (by omega) hR hN) (by omega) mi_X12_layAside lk_X12_315 rfl (Nat.le_of_ble_eq_true rfl) rfl rfl dX12_goesOn_82 ?_
          intro v16 μ17 h18
          obtain ⟨rfl, Ma, rfl, hla⟩ := h18
          refine JJ_r0 ?_
          have hAa := laid_abs hAx hla
          refine JJ_aload_n dX12_goesOn_85 rfl rfl ?_
          refine JJ_iload_n dX12_goesOn_86 rfl rfl ?_
          refine JJ_iconst (v := 2) dX12_goesOn_87 rfl ?_
          refine JJ_irem dX12_goesOn_88 (by decide) ?_
          refine JJ_eqi (x2 := nI (t % 2)) (pk_rem (a := t) (d := 2) (by omega) (by decide) (by decide)) ?_
          refine JJ_iload dX12_goesOn_89 rfl ?_
          refine JJ_callV (rest := []) hR.1 rfl rfl (kr_strikes (E := zE A) (k := k) (p := t % 2) ht2 (by omega) hR hN (hAa.rtx hg)) (by omega) mi_X12_strikes lk_X12_302 rfl (Nat.le_of_ble_eq_true rfl) rfl rfl dX12_goesOn_91 ?_
          intro v19 μ20 h21
          obtain ⟨rfl, rfl⟩ := h21
          refine JJ_r1 ?_
          refine JJ_eqi (x2 := b2 (zw A k (t % 2))) (b2_c (strk_A hAa ht2 (by omega)).1) ?_
          refine JJ_nm (fun Mb hMb => ?_)
          have hob := strk_off hMb
          rw [(strk_A hAa ht2 (q := k) (by omega)).2.1] at hMb
          have hAb := rput_abs hAa hMb
          have hNs2 : (zPut A (za A k (t % 2))).1 18 s = nI N := (zPut_o (by decide)).trans hNs
          have b40 : Mb o 40 = Mx o 40 := (hob _ _ (by omega) (by omega) (by omega)).trans (hla.2.2.2.2 _ _ (by omega) (by omega))
          have b41 : Mb o 41 = Mx o 41 := (hob _ _ (by omega) (by omega) (by omega)).trans (hla.2.2.2.2 _ _ (by omega) (by omega))
          refine JJ_istore (lv' := [(5, .int (b2 (zw A k (t % 2)))), (4, .int (nI k)), (0, .ref o), (1, .int (nI s)), (2, .int (nI t)), (3, .int dg)]) dX12_goesOn_94 (by decide) rfl ?_
          refine JJ_iload dX12_goesOn_96 rfl ?_
          refine JJ_if_eq (tgt := 113) dX12_goesOn_98 (by decide) (fun c22 => ?_) (fun c22 => ?_)
          · skip
            refine JJ_aload_n dX12_goesOn_113 rfl rfl ?_
            refine JJ_iload_n dX12_goesOn_114 rfl rfl ?_
            refine JJ_iload_n dX12_goesOn_115 rfl rfl ?_
            refine JJ_iconst (v := 1) dX12_goesOn_116 rfl ?_
            refine JJ_iadd dX12_goesOn_117 ?_
            refine JJ_eqi (x2 := nI (t + 1)) (nI_add (t) (1)) ?_
            refine JJ_bipush (v := 10) dX12_goesOn_118 rfl ?_
            refine JJ_iload_n dX12_goesOn_120 rfl rfl ?_
            refine JJ_imul dX12_goesOn_121 ?_
            refine JJ_iload dX12_goesOn_122 rfl ?_
            refine JJ_iadd dX12_goesOn_124 ?_
            refine JJ_iconst (v := 1) dX12_goesOn_125 rfl ?_
            refine JJ_iadd dX12_goesOn_126 ?_
            refine JJ_callV (rest := []) hR.1 rfl rfl (ih (t + 1) (a + 5) (10 * dg + nI k + 1) Mb Lx (zPut A (za A k (t % 2))) (by omega) (by omega) hAb (rng_sa hg ht2 (by omega)) hNs2) (by omega) mi_X12_goesOn lk_X12_343 rfl (Nat.le_of_ble_eq_true rfl) rfl rfl dX12_goesOn_127 ?_
            intro v23 μ24 h25
            obtain ⟨rfl, Mc, Lc, rfl, hpc, hoc⟩ := h25
            refine JJ_r0 ?_
            refine JJ_aload_n dX12_goesOn_130 rfl rfl ?_
            refine JJ_callV (rest := []) hR.1 rfl rfl (kr_takeBack (a := a) (lst33 hla hob (fun b k z _ _ _ => hoc b k z)) (by omega) hR hN) (by omega) mi_X12_takeBack lk_X12_322 rfl (Nat.le_of_ble_eq_true rfl) rfl rfl dX12_goesOn_131 ?_
            intro v26 μ27 h28
            obtain ⟨rfl, Md, rfl, htk⟩ := h28
            refine JJ_r0 ?_
            have hfr := lst hla hob (fun b k z _ _ _ => hoc b k z) htk hAx.as
            have d40 : Md o 40 = Mc o 40 := htk.2.2.2.2 _ _ (by omega) (by omega) (by omega)
            have d41 : Md o 41 = Mc o 41 := htk.2.2.2.2 _ _ (by omega) (by omega) (by omega)
            refine JJ_iinc (v := nI (k + 1)) (lv' := [(4, .int (nI (k + 1))), (5, .int (b2 (zw A k (t % 2)))), (0, .ref o), (1, .int (nI s)), (2, .int (nI t)), (3, .int dg)]) dX12_goesOn_134 rfl (nI_add (k) 1) (by decide) rfl ?_
            refine JJ_goto (tgt := 44) dX12_goesOn_137 (by decide) ?_
            refine JJ.pick [0, 2, 3, 4, 5] rfl ?_
            exact ihe (k + 1) Md Lc (by omega) (by rw [← hl, zfl_f, zgf_1 ⟨c15, Or.inl (b2_0.mp c22)⟩, d40, d41, hpc, b40, b41]) (fun b k z => (hfr b k z).trans (hx b k z))
          · skip
            refine JJ_iload_n dX12_goesOn_101 rfl rfl ?_
            refine JJ_aload_n dX12_goesOn_102 rfl rfl ?_
            refine JJ_getr (q := o + 17) (cis := [12]) (k := 49) fa_X12_66 (by decide) hR.1 rfl (hR.2 (49, 17, 20, 4) (by decide)).1 dX12_goesOn_103 ?_
            refine JJ_iload_n dX12_goesOn_106 rfl rfl ?_
            refine JJ_ialdX (v := nI N) (hR.2 (49, 17, 20, 4) (by decide)).2 (IX_nI (by omega) (by omega)) (hN.2.1 17 _ (by decide) (by decide)) ((hAb.sz hs).trans hNs2) dX12_goesOn_107 ?_
            refine JJ_iconst (v := 1) dX12_goesOn_108 rfl ?_
            refine JJ_isub dX12_goesOn_109 ?_
            refine JJ_eqi (x2 := nI (N - 1)) (pk_sub (a := N) (b := 1) (by omega)) ?_
            refine JJ_icmp_ne (tgt := 130) dX12_goesOn_110 (by decide) (fun c29 => ?_) (fun c29 => ?_)
            · skip
              refine JJ_aload_n dX12_goesOn_130 rfl rfl ?_
              refine JJ_callV (rest := []) hR.1 rfl rfl (kr_takeBack (a := a) (lst33 hla hob (fun b k _ _ _ _ => rfl)) (by omega) hR hN) (by omega) mi_X12_takeBack lk_X12_322 rfl (Nat.le_of_ble_eq_true rfl) rfl rfl dX12_goesOn_131 ?_
              intro v30 μ31 h32
              obtain ⟨rfl, Md, rfl, htk⟩ := h32
              refine JJ_r0 ?_
              have hfr := lst hla hob (fun b k _ _ _ _ => rfl) htk hAx.as
              have d40 : Md o 40 = Mb o 40 := htk.2.2.2.2 _ _ (by omega) (by omega) (by omega)
              have d41 : Md o 41 = Mb o 41 := htk.2.2.2.2 _ _ (by omega) (by omega) (by omega)
              refine JJ_iinc (v := nI (k + 1)) (lv' := [(4, .int (nI (k + 1))), (5, .int (b2 (zw A k (t % 2)))), (0, .ref o), (1, .int (nI s)), (2, .int (nI t)), (3, .int dg)]) dX12_goesOn_134 rfl (nI_add (k) 1) (by decide) rfl ?_
              refine JJ_goto (tgt := 44) dX12_goesOn_137 (by decide) ?_
              refine JJ.pick [0, 2, 3, 4, 5] rfl ?_
              exact ihe (k + 1) Md Lx (by omega) (by rw [← hl, zfl_f, zgf_0 (fun z => z.2.elim (fun q => q (b2_n.mp c22)) (fun q => c29 (by rw [show t = N - 1 by omega]))), d40, d41, b40, b41]; rfl) (fun b k z => (hfr b k z).trans (hx b k z))
            · skip
              refine JJ_aload_n dX12_goesOn_113 rfl rfl ?_
              refine JJ_iload_n dX12_goesOn_114 rfl rfl ?_
              refine JJ_iload_n dX12_goesOn_115 rfl rfl ?_
              refine JJ_iconst (v := 1) dX12_goesOn_116 rfl ?_
              refine JJ_iadd dX12_goesOn_117 ?_
              refine JJ_eqi (x2 := nI (t + 1)) (nI_add (t) (1)) ?_
              refine JJ_bipush (v := 10) dX12_goesOn_118 rfl ?_
              refine JJ_iload_n dX12_goesOn_120 rfl rfl ?_
              refine JJ_imul dX12_goesOn_121 ?_
              refine JJ_iload dX12_goesOn_122 rfl ?_
              refine JJ_iadd dX12_goesOn_124 ?_
              refine JJ_iconst (v := 1) dX12_goesOn_125 rfl ?_
              refine JJ_iadd dX12_goesOn_126 ?_
              refine JJ_callV (rest := []) hR.1 rfl rfl (ih (t + 1) (a + 5) (10 * dg + nI k + 1) Mb Lx (zPut A (za A k (t % 2))) (by omega) (by omega) hAb (rng_sa hg ht2 (by omega)) hNs2) (by omega) mi_X12_goesOn lk_X12_343 rfl (Nat.le_of_ble_eq_true rfl) rfl rfl dX12_goesOn_127 ?_
              intro v33 μ34 h35
              obtain ⟨rfl, Mc, Lc, rfl, hpc, hoc⟩ := h35
              refine JJ_r0 ?_
              refine JJ_aload_n dX12_goesOn_130 rfl rfl ?_
              refine JJ_callV (rest := []) hR.1 rfl rfl (kr_takeBack (a := a) (lst33 hla hob (fun b k z _ _ _ => hoc b k z)) (by omega) hR hN) (by omega) mi_X12_takeBack lk_X12_322 rfl (Nat.le_of_ble_eq_true rfl) rfl rfl dX12_goesOn_131 ?_
              intro v36 μ37 h38
              obtain ⟨rfl, Md, rfl, htk⟩ := h38
              refine JJ_r0 ?_
              have hfr := lst hla hob (fun b k z _ _ _ => hoc b k z) htk hAx.as
              have d40 : Md o 40 = Mc o 40 := htk.2.2.2.2 _ _ (by omega) (by omega) (by omega)
              have d41 : Md o 41 = Mc o 41 := htk.2.2.2.2 _ _ (by omega) (by omega) (by omega)
              refine JJ_iinc (v := nI (k + 1)) (lv' := [(4, .int (nI (k + 1))), (5, .int (b2 (zw A k (t % 2)))), (0, .ref o), (1, .int (nI s)), (2, .int (nI t)), (3, .int dg)]) dX12_goesOn_134 rfl (nI_add (k) 1) (by decide) rfl ?_
              refine JJ_goto (tgt := 44) dX12_goesOn_137 (by decide) ?_
              refine JJ.pick [0, 2, 3, 4, 5] rfl ?_
              exact ihe (k + 1) Md Lc (by omega) (by rw [← hl, zfl_f, zgf_1 ⟨c15, Or.inr (by have := nI_inj (by omega) (by omega) c29; omega)⟩, d40, d41, hpc, b40, b41]) (fun b k z => (hfr b k z).trans (hx b k z))
    refine JJ.pick [0, 1, 2, 3, 4] rfl ?_
    exact key cn 0 M L (by omega) (by rw [zgo_s, hcZ]) (fun _ _ _ => rfl)
set_option maxHeartbeats 4000000 in
set_option maxRecDepth 100000 in
theorem kr_balls {s what : Int32} {A : Abs} (hA : rABS o M A) (hg : RNG A) (hR : RWF o S P) (hN : HSR o sc) : KK G sc yX12_balls cX12_balls 3 (some .int) 70 0 0 [.ref o, .int s, .int what] (n, S, M, L, P) (qI o n S M P (zr_balls A s what)) := by
  refine KK_of2 [(0, .ref o), (1, .int s), (2, .int what)] (by decide +kernel) (Nat.le_of_ble_eq_true rfl) rfl ?_
  refine JJ_iload_n dX12_balls_0 rfl rfl ?_
  refine JJ_callS (rest := []) (kr_isSheet (v := s)) (by decide) mi_X12_isSheet lk_X12_309 rfl (Nat.le_of_ble_eq_true rfl) rfl rfl dX12_balls_1 ?_
  intro v1 μ2 h3
  obtain ⟨rfl, rfl⟩ := h3
  refine JJ_r1 ?_
  refine JJ_if_eq (tgt := 17) dX12_balls_4 (by decide) (fun c4 => ?_) (fun c4 => ?_)
  · skip
    refine JJ_bipush (v := (-2)) dX12_balls_17 rfl ?_
    refine JJ_iret dX12_balls_19 rfl ?_
    exact qI_n (if_pos (fun z => b2_0.mp c4 z.1)).symm
  · skip
    refine JJ_iload_n dX12_balls_7 rfl rfl ?_
    refine JJ_i2l dX12_balls_8 ?_
    refine JJ_lconst (v := 0) dX12_balls_9 rfl ?_
    refine JJ_lconst (v := 1) dX12_balls_10 rfl ?_
    refine JJ_callS (rest := []) (kr_in32 (v := what) (lo := 0) (hi := 1) (a := 0) (b := 1) rfl rfl) (by decide) mi_X12_in lk_X12_82 rfl (Nat.le_of_ble_eq_true rfl) rfl rfl dX12_balls_11 ?_
    intro v5 μ6 h7
    obtain ⟨rfl, rfl⟩ := h7
    refine JJ_r1 ?_
    refine JJ_if_ne (tgt := 20) dX12_balls_14 (by decide) (fun c8 => ?_) (fun c8 => ?_)
    · skip
      obtain ⟨k, hk3, rfl⟩ := n_of (m := 3) (by decide) (b2_n.mp c4)
      have hk4 : k < 4 := by omega
      have e0 : zr_balls A (nI k) what = if A.1 16 k = 0 then -11 else if 4 < A.1 18 k then -2 else if what = 0 then ((zgo k (zN A k) A 0 0).foldl zst (0, -1)).1 else ((zgo k (zN A k) A 0 0).foldl zst (0, -1)).2 := by
        unfold zr_balls
        rw [if_neg (fun z => z ⟨b2_n.mp c4, b2_n.mp c8⟩), show i2n (nI k) = k from nI_clamp (by omega)]
      refine JJ_aload_n dX12_balls_20 rfl rfl ?_
      refine JJ_getr (q := o + 15) (cis := [12]) (k := 47) fa_X12_59 (by decide) hR.1 rfl (hR.2 (47, 15, 21, 4) (by decide)).1 dX12_balls_21 ?_
      refine JJ_iload_n dX12_balls_24 rfl rfl ?_
      refine JJ_zaldX (v := A.1 16 k) (hR.2 (47, 15, 21, 4) (by decide)).2 (IX_nI (by omega) (by omega)) (hN.2.1 15 _ (by decide) (by decide)) (hA.th hk4) dX12_balls_25 ?_
      refine JJ_if_ne (tgt := 32) dX12_balls_26 (by decide) (fun c9 => ?_) (fun c9 => ?_)
      · skip
        refine JJ_aload_n dX12_balls_32 rfl rfl ?_
        refine JJ_getr (q := o + 17) (cis := [12]) (k := 49) fa_X12_66 (by decide) hR.1 rfl (hR.2 (49, 17, 20, 4) (by decide)).1 dX12_balls_33 ?_
        refine JJ_iload_n dX12_balls_36 rfl rfl ?_
        refine JJ_ialdX (v := A.1 18 k) (hR.2 (49, 17, 20, 4) (by decide)).2 (IX_nI (by omega) (by omega)) (hN.2.1 17 _ (by decide) (by decide)) (hA.sz hk4) dX12_balls_37 ?_
        refine JJ_iconst (v := 4) dX12_balls_38 rfl ?_
        refine JJ_icmp_le (tgt := 45) dX12_balls_39 (by decide) (fun c10 => ?_) (fun c10 => ?_)
        · skip
          obtain ⟨-, N, hN40, hNs⟩ := (hg.2.2.2.2.1 k hk4).resolve_left c9
          have hN4 : N ≤ 4 := by have h4 := c10; rw [hNs] at h4; exact (nI_leI (b := 4) (by omega) (by omega)).mp h4
          have hzN : zN A k = N := by show i2n _ = _; rw [hNs]; exact nI_clamp (by omega)
          refine JJ_aload_n dX12_balls_45 rfl rfl ?_
          refine JJ_iconst (v := 0) dX12_balls_46 rfl ?_
          refine JJ_puti (cis := [12]) (k := 40) fa_X12_337 (by decide) hR.1 rfl (fun r hr => by cases hr; exact ⟨rfl, by decide +kernel⟩) dX12_balls_47 (fun M11 hM12 => ?_)
          refine JJ_aload_n dX12_balls_50 rfl rfl ?_
          refine JJ_iconst (v := (-1)) dX12_balls_51 rfl ?_
          refine JJ_puti (cis := [12]) (k := 41) fa_X12_340 (by decide) hR.1 rfl (fun r hr => by cases hr; exact ⟨rfl, by decide +kernel⟩) dX12_balls_52 (fun M13 hM14 => ?_)
          refine JJ_aload_n dX12_balls_55 rfl rfl ?_
          refine JJ_iload_n dX12_balls_56 rfl rfl ?_
          refine JJ_iconst (v := 0) dX12_balls_57 rfl ?_
          refine JJ_iconst (v := 0) dX12_balls_58 rfl ?_
          have hfx : ∀ b k, ¬ TD o b k → M13 b k = M b k := fun b k z => rd_n hM14 (by unfold TD at z; omega) (rd_n hM12 (by unfold TD at z; omega) (rfl))
          have q40 : M13 o 40 = 0 := (rd_n hM14 (by omega) (rd_s hM12))
          have q41 : M13 o 41 = -1 := (rd_s hM14)
          refine JJ_callV (rest := []) hR.1 rfl rfl (kr_goesOn hk4 hN4 hR hN N 0 0 0 M13 L A (by omega) (by omega) (hA.keep hfx) hg hNs) (by omega) mi_X12_goesOn lk_X12_343 rfl (Nat.le_of_ble_eq_true rfl) rfl rfl dX12_balls_59 ?_
          intro v15 μ16 h17
          obtain ⟨rfl, Mc, Lc, rfl, hpc, hoc⟩ := h17
          refine JJ_r0 ?_
          rw [q40, q41, ← hzN] at hpc
          have hfr : ∀ b k, ¬ TD o b k → Mc b k = M b k := fun b k z => (hoc b k (fun q => z q.td)).trans (hfx b k z)
          refine JJ_iload_n dX12_balls_62 rfl rfl ?_
          refine JJ_if_ne (tgt := 73) dX12_balls_63 (by decide) (fun c18 => ?_) (fun c18 => ?_)
          · skip
            refine JJ_aload_n dX12_balls_73 rfl rfl ?_
            refine JJ_geti (v := Mc o 41) (cis := [12]) (k := 41) fa_X12_340 (by decide) hR.1 rfl (hN.1 41 (by decide)) rfl dX12_balls_74 ?_
            refine JJ_iret dX12_balls_77 rfl ?_
            exact qI_r (by rw [e0, if_neg c9, if_neg (Int32.not_lt.mpr c10), if_neg c18, ← hpc]) hfr
          · skip
            refine JJ_aload_n dX12_balls_66 rfl rfl ?_
            refine JJ_geti (v := Mc o 40) (cis := [12]) (k := 40) fa_X12_337 (by decide) hR.1 rfl (hN.1 40 (by decide)) rfl dX12_balls_67 ?_
            refine JJ_goto (tgt := 77) dX12_balls_70 (by decide) ?_
            refine JJ_iret dX12_balls_77 rfl ?_
            exact qI_r (by rw [e0, if_neg c9, if_neg (Int32.not_lt.mpr c10), if_pos c18, ← hpc]) hfr
        · skip
          refine JJ_bipush (v := (-2)) dX12_balls_42 rfl ?_
          refine JJ_iret dX12_balls_44 rfl ?_
          exact qI_n (by rw [e0, if_neg c9, if_pos (Int32.not_le.mp c10)])
      · skip
        refine JJ_bipush (v := (-11)) dX12_balls_29 rfl ?_
        refine JJ_iret dX12_balls_31 rfl ?_
        exact qI_n (by rw [e0, if_pos c9])
    · skip
      refine JJ_bipush (v := (-2)) dX12_balls_17 rfl ?_
      refine JJ_iret dX12_balls_19 rfl ?_
      exact qI_n (if_pos (fun z => b2_0.mp c8 z.2)).symm
end REF10
