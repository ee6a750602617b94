section REF6
variable {G : Gx} {sc : Nat → Nat → Prop} {n : Nat} {S : Nat → Nat × Nat} {M : Nat → Nat → Int32} {L : Nat → Nat → Int64} {P : Nat → Nat → Option Nat} {o : Nat}

set_option maxHeartbeats 4000000 in
set_option maxRecDepth 100000 in
theorem kr_valueOf : ∀ (n1 p a : Nat) (M : Nat → Nat → Int32) (L : Nat → Nat → Int64) (A : Abs), n1 ≤ 5 → p < 2 → a + 5 * n1 ≤ 60 → rABSg o a M A → RNG A → RWF o S P → HSR o sc → KK G sc yX12_valueOf cX12_valueOf 7 (some .int) (63 + n1) 0 0 [.ref o, .int (nI p), .int (nI n1)] (n, S, M, L, P) (fun v μ => v = some (.int (zval n1 A p).1) ∧ ∃ M' L', μ = (n, S, M', L', P) ∧ M' o 39 = (zval n1 A p).2 ∧ ∀ b k, ¬ TDa o a b k → M' b k = M b k) := by
  intro n1
  induction n1 with
  | zero =>
    intro p a M L A hn5 hp ha hA hg hR hN
    refine KK_of2 [(0, .ref o), (1, .int (nI p)), (2, .int (nI 0))] (by decide +kernel) (Nat.le_of_ble_eq_true rfl) rfl ?_
    refine JJ_bipush (v := (-2)) dX12_valueOf_0 rfl ?_
    refine JJ_istore_n (lv' := [(3, .int ((-2))), (0, .ref o), (1, .int (nI p)), (2, .int (nI 0))]) dX12_valueOf_2 rfl (by decide) rfl ?_
    refine JJ_iconst (v := (-1)) dX12_valueOf_3 rfl ?_
    refine JJ_istore (lv' := [(4, .int ((-1))), (3, .int ((-2))), (0, .ref o), (1, .int (nI p)), (2, .int (nI 0))]) dX12_valueOf_4 (by decide) rfl ?_
    refine JJ_iload_n dX12_valueOf_6 rfl rfl ?_
    refine JJ_if_eq (tgt := 17) dX12_valueOf_7 (by decide) (fun _ => ?_) (fun c1 => absurd (show nI 0 = 0 from rfl) c1)
    refine JJ_aload_n dX12_valueOf_17 rfl rfl ?_
    refine JJ_iconst (v := (-1)) dX12_valueOf_18 rfl ?_
    refine JJ_puti (cis := [12]) (k := 39) fa_X12_327 (by decide) hR.1 rfl (fun r hr => by cases hr; exact ⟨rfl, by decide +kernel⟩) dX12_valueOf_19 (fun M2 hM3 => ?_)
    refine JJ_iconst (v := 0) dX12_valueOf_22 rfl ?_
    refine JJ_iret dX12_valueOf_23 rfl ?_
    exact ⟨rfl, M2, L, rfl, (rd_s hM3), fun b k z => rd_n hM3 (by unfold TDa at z; omega) (rfl)⟩
  | succ n1 ih =>
    intro p a M L A hn5 hp ha hA hg hR hN
    obtain ⟨c, hc6, hcA, hcZ⟩ := cnt_e hg
    have hcM : M o 15 = nI c := hA.cnt.trans hcA
    refine KK_of2 [(0, .ref o), (1, .int (nI p)), (2, .int (nI (n1 + 1)))] (by decide +kernel) (Nat.le_of_ble_eq_true rfl) rfl ?_
    refine JJ_bipush (v := (-2)) dX12_valueOf_0 rfl ?_
    refine JJ_istore_n (lv' := [(3, .int ((-2))), (0, .ref o), (1, .int (nI p)), (2, .int (nI (n1 + 1)))]) dX12_valueOf_2 rfl (by decide) rfl ?_
    refine JJ_iconst (v := (-1)) dX12_valueOf_3 rfl ?_
    refine JJ_istore (lv' := [(4, .int ((-1))), (3, .int ((-2))), (0, .ref o), (1, .int (nI p)), (2, .int (nI (n1 + 1)))]) dX12_valueOf_4 (by decide) rfl ?_
    refine JJ_iload_n dX12_valueOf_6 rfl rfl ?_
    refine JJ_if_eq (tgt := 17) dX12_valueOf_7 (by decide) (fun c4 => absurd c4 (fun e => absurd (nI_inj (a := n1 + 1) (b := 0) (by omega) (by omega) e) (by omega))) (fun _ => ?_)
    refine JJ_aload_n dX12_valueOf_10 rfl rfl ?_
    refine JJ_geti (v := nI c) (cis := [12]) (k := 15) fa_X12_79 (by decide) hR.1 rfl (hN.1 15 (by decide)) hcM dX12_valueOf_11 ?_
    refine JJ_if_ne (tgt := 24) dX12_valueOf_14 (by decide) (fun c5 => ?_) (fun c5 => ?_)
    · skip
      refine JJ_iconst (v := 0) dX12_valueOf_24 rfl ?_
      refine JJ_istore (lv' := [(5, .int 0), (4, .int ((-1))), (3, .int ((-2))), (0, .ref o), (1, .int (nI p)), (2, .int (nI (n1 + 1)))]) dX12_valueOf_25 (by decide) rfl ?_
      have hz : ¬ A.1 8 0 = 0 := by rw [hcA]; exact c5
      have key : ∀ (d k : Nat) (mo fd : Int32) (Mx : Nat → Nat → Int32) (Lx : Nat → Nat → Int64), k + d = c → zbest (zf n1 A p) d k mo fd = zval (n1 + 1) A p → (∀ b k, ¬ TDa o a b k → Mx b k = M b k) → JJ G sc yX12_valueOf cX12_valueOf 7 (some .int) (63 + (n1 + 1)) 0 0 (fun v μ => v = some (.int (zval (n1 + 1) A p).1) ∧ ∃ M' L', μ = (n, S, M', L', P) ∧ M' o 39 = (zval (n1 + 1) A p).2 ∧ ∀ b k, ¬ TDa o a b k → M' b k = M b k) 27 [(5, .int (nI k)), (4, .int fd), (3, .int mo), (0, .ref o), (1, .int (nI p)), (2, .int (nI (n1 + 1)))] [] (n, S, Mx, Lx, P) := by
        intro d
        induction d with
        | zero =>
          intro k mo fd Mx Lx hk hinv hx
          refine JJ_iload dX12_valueOf_27 rfl ?_
          refine JJ_aload_n dX12_valueOf_29 rfl rfl ?_
          refine JJ_geti (v := nI c) (cis := [12]) (k := 15) fa_X12_79 (by decide) hR.1 rfl (hN.1 15 (by decide)) ((hx _ _ (by unfold TDa; omega)).trans hcM) dX12_valueOf_30 ?_
          refine JJ_icmp_ge (tgt := 95) dX12_valueOf_33 (by decide) (fun _ => ?_) (fun c6 => absurd (nI_le (by omega) (by omega)) c6)
          refine JJ_aload_n dX12_valueOf_95 rfl rfl ?_
          refine JJ_iload dX12_valueOf_96 rfl ?_
          refine JJ_puti (cis := [12]) (k := 39) fa_X12_327 (by decide) hR.1 rfl (fun r hr => by cases hr; exact ⟨rfl, by decide +kernel⟩) dX12_valueOf_98 (fun M7 hM8 => ?_)
          refine JJ_iload_n dX12_valueOf_101 rfl rfl ?_
          refine JJ_iret dX12_valueOf_102 rfl ?_
          exact ⟨by rw [← hinv]; rfl, M7, Lx, rfl, (rd_s hM8).trans (by rw [← hinv]; rfl), fun b k z => (rd_n hM8 (by unfold TDa at z; omega) rfl).trans (hx b k z)⟩
        | succ d ihd =>
          intro k mo fd Mx Lx hk hinv hx
          have hAx : rABSg o a Mx A := hA.keep (fun b k z => hx b k (fun q => z q.td))
          refine JJ_iload dX12_valueOf_27 rfl ?_
          refine JJ_aload_n dX12_valueOf_29 rfl rfl ?_
          refine JJ_geti (v := nI c) (cis := [12]) (k := 15) fa_X12_79 (by decide) hR.1 rfl (hN.1 15 (by decide)) ((hx _ _ (by unfold TDa; omega)).trans hcM) dX12_valueOf_30 ?_
          refine JJ_icmp_ge (tgt := 95) dX12_valueOf_33 (by decide) (fun c9 => absurd c9 (nI_ge (by omega) (by omega))) (fun _ => ?_)
          refine JJ_iload_n dX12_valueOf_36 rfl rfl ?_
          refine JJ_iconst (v := 1) dX12_valueOf_37 rfl ?_
          refine JJ_icmp_ge (tgt := 95) dX12_valueOf_38 (by decide) (fun c10 => ?_) (fun c10 => ?_)
          · skip
            refine JJ_aload_n dX12_valueOf_95 rfl rfl ?_
            refine JJ_iload dX12_valueOf_96 rfl ?_
            refine JJ_puti (cis := [12]) (k := 39) fa_X12_327 (by decide) hR.1 rfl (fun r hr => by cases hr; exact ⟨rfl, by decide +kernel⟩) dX12_valueOf_98 (fun M11 hM12 => ?_)
            refine JJ_iload_n dX12_valueOf_101 rfl rfl ?_
            refine JJ_iret dX12_valueOf_102 rfl ?_
            have c10x : ¬ mo < 1 := Int32.not_lt.mpr c10
            exact ⟨by rw [← hinv, zbest_x c10x], M11, Lx, rfl, (rd_s hM12).trans (by rw [← hinv, zbest_x c10x]), fun b k z => (rd_n hM12 (by unfold TDa at z; omega) rfl).trans (hx b k z)⟩
          · skip
            refine JJ_aload_n dX12_valueOf_41 rfl rfl ?_
            refine JJ_callV (rest := []) hR.1 rfl rfl (kr_layAside (a := a) hAx.as (by omega) hR hN) (by omega) mi_X12_layAside lk_X12_315 rfl (Nat.le_of_ble_eq_true rfl) rfl rfl dX12_valueOf_42 ?_
            intro v13 μ14 h15
            obtain ⟨rfl, Ma, rfl, hla⟩ := h15
            refine JJ_r0 ?_
            have hAa := laid_abs hAx hla
            refine JJ_aload_n dX12_valueOf_45 rfl rfl ?_
            refine JJ_iload_n dX12_valueOf_46 rfl rfl ?_
            refine JJ_iload dX12_valueOf_47 rfl ?_
            refine JJ_callV (rest := []) hR.1 rfl rfl (kr_strikes (E := zE A) (k := k) (p := p) hp (by omega) hR hN (hAa.rtx hg)) (by omega) mi_X12_strikes lk_X12_302 rfl (Nat.le_of_ble_eq_true rfl) rfl rfl dX12_valueOf_49 ?_
            intro v16 μ17 h18
            obtain ⟨rfl, rfl⟩ := h18
            refine JJ_r1 ?_
            refine JJ_eqi (x2 := b2 (zw A k p)) (b2_c (strk_A hAa hp (by omega)).1) ?_
            refine JJ_nm (fun Mb hMb => ?_)
            have hob := strk_off hMb
            rw [(strk_A hAa hp (q := k) (by omega)).2.1] at hMb
            have hAb := rput_abs hAa hMb
            refine JJ_if_eq (tgt := 59) dX12_valueOf_52 (by decide) (fun c19 => ?_) (fun c19 => ?_)
            · skip
              refine JJ_aload_n dX12_valueOf_59 rfl rfl ?_
              refine JJ_iconst (v := 1) dX12_valueOf_60 rfl ?_
              refine JJ_iload_n dX12_valueOf_61 rfl rfl ?_
              refine JJ_isub dX12_valueOf_62 ?_
              refine JJ_eqi (x2 := nI (1 - p)) (e_sub1 hp) ?_
              refine JJ_iload_n dX12_valueOf_63 rfl rfl ?_
              refine JJ_iconst (v := 1) dX12_valueOf_64 rfl ?_
              refine JJ_isub dX12_valueOf_65 ?_
              refine JJ_eqi (x2 := nI n1) (pk_sub (a := n1 + 1) (b := 1) (by omega)) ?_
              refine JJ_callV (rest := []) hR.1 rfl rfl (ih (1 - p) (a + 5) Mb Lx (zPut A (za A k p)) (by omega) (by omega) (by omega) hAb (rng_sa hg hp (by omega)) hR hN) (by omega) mi_X12_valueOf lk_X12_330 rfl (Nat.le_of_ble_eq_true rfl) rfl rfl dX12_valueOf_66 ?_
              intro v20 μ21 h22
              obtain ⟨rfl, Mc, Lc, rfl, h39, hoc⟩ := h22
              refine JJ_r1 ?_
              refine JJ_ineg dX12_valueOf_69 ?_
              refine JJ_istore (lv' := [(6, .int (-((zval n1 (zPut A (za A k p)) (1 - p)).1))), (5, .int (nI k)), (4, .int fd), (3, .int mo), (0, .ref o), (1, .int (nI p)), (2, .int (nI (n1 + 1)))]) dX12_valueOf_70 (by decide) rfl ?_
              refine JJ_aload_n dX12_valueOf_72 rfl rfl ?_
              refine JJ_callV (rest := []) hR.1 rfl rfl (kr_takeBack (a := a) (lst33 hla hob (fun b k z _ _ _ => hoc b k z)) (by omega) hR hN) (by omega) mi_X12_takeBack lk_X12_322 rfl (Nat.le_of_ble_eq_true rfl) rfl rfl dX12_valueOf_73 ?_
              intro v23 μ24 h25
              obtain ⟨rfl, Md, rfl, htk⟩ := h25
              refine JJ_r0 ?_
              have hfr := lst hla hob (fun b k z _ _ _ => hoc b k z) htk hAx.as
              refine JJ_iload dX12_valueOf_76 rfl ?_
              refine JJ_iload_n dX12_valueOf_78 rfl rfl ?_
              refine JJ_icmp_le (tgt := 89) dX12_valueOf_79 (by decide) (fun c26 => ?_) (fun c26 => ?_)
              · skip
                refine JJ_iinc (v := nI (k + 1)) (lv' := [(5, .int (nI (k + 1))), (6, .int (-((zval n1 (zPut A (za A k p)) (1 - p)).1))), (4, .int fd), (3, .int mo), (0, .ref o), (1, .int (nI p)), (2, .int (nI (n1 + 1)))]) dX12_valueOf_89 rfl (nI_add (k) 1) (by decide) rfl ?_
                refine JJ_goto (tgt := 27) dX12_valueOf_92 (by decide) ?_
                have hm : mo < 1 := Int32.not_le.mp c10
                have hf : zf n1 A p k = -((zval n1 (zPut A (za A k p)) (1 - p)).1) := if_neg (b2_0.mp c19)
                refine JJ.pick [0, 2, 3, 4, 5, 6] rfl ?_
                refine ihd (k + 1) _ _ _ _ (by omega) ((zbest_0 hm (by rw [hf]; exact Int32.not_lt.mpr c26)).symm.trans hinv) (fun b k z => (hfr b k z).trans (hx b k z))
              · skip
                refine JJ_iload dX12_valueOf_82 rfl ?_
                refine JJ_istore_n (lv' := [(3, .int (-((zval n1 (zPut A (za A k p)) (1 - p)).1))), (6, .int (-((zval n1 (zPut A (za A k p)) (1 - p)).1))), (5, .int (nI k)), (4, .int fd), (0, .ref o), (1, .int (nI p)), (2, .int (nI (n1 + 1)))]) dX12_valueOf_84 rfl (by decide) rfl ?_
                refine JJ_iload dX12_valueOf_85 rfl ?_
                refine JJ_istore (lv' := [(4, .int (nI k)), (3, .int (-((zval n1 (zPut A (za A k p)) (1 - p)).1))), (6, .int (-((zval n1 (zPut A (za A k p)) (1 - p)).1))), (5, .int (nI k)), (0, .ref o), (1, .int (nI p)), (2, .int (nI (n1 + 1)))]) dX12_valueOf_87 (by decide) rfl ?_
                refine JJ_iinc (v := nI (k + 1)) (lv' := [(5, .int (nI (k + 1))), (4, .int (nI k)), (3, .int (-((zval n1 (zPut A (za A k p)) (1 - p)).1))), (6, .int (-((zval n1 (zPut A (za A k p)) (1 - p)).1))), (0, .ref o), (1, .int (nI p)), (2, .int (nI (n1 + 1)))]) dX12_valueOf_89 rfl (nI_add (k) 1) (by decide) rfl ?_
                refine JJ_goto (tgt := 27) dX12_valueOf_92 (by decide) ?_
                have hm : mo < 1 := Int32.not_le.mp c10
                have hf : zf n1 A p k = -((zval n1 (zPut A (za A k p)) (1 - p)).1) := if_neg (b2_0.mp c19)
                refine JJ.pick [0, 1, 2, 4, 5, 6] rfl ?_
                refine ihd (k + 1) _ _ _ _ (by omega) (by rw [← hinv, zbest_1 hm (by rw [hf]; exact Int32.not_le.mp c26), hf]) (fun b k z => (hfr b k z).trans (hx b k z))
            · skip
              refine JJ_iconst (v := 1) dX12_valueOf_55 rfl ?_
              refine JJ_goto (tgt := 70) dX12_valueOf_56 (by decide) ?_
              refine JJ_istore (lv' := [(6, .int 1), (5, .int (nI k)), (4, .int fd), (3, .int mo), (0, .ref o), (1, .int (nI p)), (2, .int (nI (n1 + 1)))]) dX12_valueOf_70 (by decide) rfl ?_
              refine JJ_aload_n dX12_valueOf_72 rfl rfl ?_
              refine JJ_callV (rest := []) hR.1 rfl rfl (kr_takeBack (a := a) (lst33 hla hob (fun b k _ _ _ _ => rfl)) (by omega) hR hN) (by omega) mi_X12_takeBack lk_X12_322 rfl (Nat.le_of_ble_eq_true rfl) rfl rfl dX12_valueOf_73 ?_
              intro v27 μ28 h29
              obtain ⟨rfl, Md, rfl, htk⟩ := h29
              refine JJ_r0 ?_
              have hfr := lst hla hob (fun b k _ _ _ _ => rfl) htk hAx.as
              refine JJ_iload dX12_valueOf_76 rfl ?_
              refine JJ_iload_n dX12_valueOf_78 rfl rfl ?_
              refine JJ_icmp_le (tgt := 89) dX12_valueOf_79 (by decide) (fun c30 => ?_) (fun c30 => ?_)
              · skip
                refine JJ_iinc (v := nI (k + 1)) (lv' := [(5, .int (nI (k + 1))), (6, .int 1), (4, .int fd), (3, .int mo), (0, .ref o), (1, .int (nI p)), (2, .int (nI (n1 + 1)))]) dX12_valueOf_89 rfl (nI_add (k) 1) (by decide) rfl ?_
                refine JJ_goto (tgt := 27) dX12_valueOf_92 (by decide) ?_
                have hm : mo < 1 := Int32.not_le.mp c10
                have hf : zf n1 A p k = 1 := if_pos (b2_n.mp c19)
                refine JJ.pick [0, 2, 3, 4, 5, 6] rfl ?_
                refine ihd (k + 1) _ _ _ _ (by omega) ((zbest_0 hm (by rw [hf]; exact Int32.not_lt.mpr c30)).symm.trans hinv) (fun b k z => (hfr b k z).trans (hx b k z))
              · skip
                refine JJ_iload dX12_valueOf_82 rfl ?_
                refine JJ_istore_n (lv' := [(3, .int 1), (6, .int 1), (5, .int (nI k)), (4, .int fd), (0, .ref o), (1, .int (nI p)), (2, .int (nI (n1 + 1)))]) dX12_valueOf_84 rfl (by decide) rfl ?_
                refine JJ_iload dX12_valueOf_85 rfl ?_
                refine JJ_istore (lv' := [(4, .int (nI k)), (3, .int 1), (6, .int 1), (5, .int (nI k)), (0, .ref o), (1, .int (nI p)), (2, .int (nI (n1 + 1)))]) dX12_valueOf_87 (by decide) rfl ?_
                refine JJ_iinc (v := nI (k + 1)) (lv' := [(5, .int (nI (k + 1))), (4, .int (nI k)), (3, .int 1), (6, .int 1), (0, .ref o), (1, .int (nI p)), (2, .int (nI (n1 + 1)))]) dX12_valueOf_89 rfl (nI_add (k) 1) (by decide) rfl ?_
                refine JJ_goto (tgt := 27) dX12_valueOf_92 (by decide) ?_
                have hm : mo < 1 := Int32.not_le.mp c10
                have hf : zf n1 A p k = 1 := if_pos (b2_n.mp c19)
                refine JJ.pick [0, 1, 2, 4, 5, 6] rfl ?_
                refine ihd (k + 1) _ _ _ _ (by omega) (by rw [← hinv, zbest_1 hm (by rw [hf]; exact Int32.not_le.mp c30), hf]) (fun b k z => (hfr b k z).trans (hx b k z))
      refine JJ.pick [0, 1, 2, 3, 4, 5] rfl ?_
      exact key c 0 (-2) (-1) M L (by omega) (by rw [zval_s hz, hcZ]) (fun _ _ _ => rfl)
    · skip
      refine JJ_aload_n dX12_valueOf_17 rfl rfl ?_
      refine JJ_iconst (v := (-1)) dX12_valueOf_18 rfl ?_
      refine JJ_puti (cis := [12]) (k := 39) fa_X12_327 (by decide) hR.1 rfl (fun r hr => by cases hr; exact ⟨rfl, by decide +kernel⟩) dX12_valueOf_19 (fun M31 hM32 => ?_)
      refine JJ_iconst (v := 0) dX12_valueOf_22 rfl ?_
      refine JJ_iret dX12_valueOf_23 rfl ?_
      exact ⟨by rw [zval_0 (hcA.trans c5)], M31, L, rfl, (rd_s hM32).trans (by rw [zval_0 (hcA.trans c5)]), fun b k z => rd_n hM32 (by unfold TDa at z; omega) (rfl)⟩
end REF6
