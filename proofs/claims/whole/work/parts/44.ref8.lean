section REF8
variable {G : Gx} {sc : Nat → Nat → Prop} {n : Nat} {S : Nat → Nat × Nat} {M : Nat → Nat → Int32} {L : Nat → Nat → Int64} {P : Nat → Nat → Option Nat} {o : Nat}

set_option maxHeartbeats 4000000 in
set_option maxRecDepth 100000 in
theorem kr_stand {pl what : Int32} {A : Abs} (hA : rABS o M A) (hg : RNG A) (hR : RWF o S P) (hN : HSR o sc) : KK G sc yX12_stand cX12_stand 7 (some .int) 63 0 0 [.ref o, .int pl, .int what] (n, S, M, L, P) (ansI (zr_stand A pl what) (n, S, M, L, P)) := by
  refine KK_of2 [(0, .ref o), (1, .int pl), (2, .int what)] (by decide +kernel) (Nat.le_of_ble_eq_true rfl) rfl ?_
  refine JJ_iload_n dX12_stand_0 rfl rfl ?_
  refine JJ_callS (rest := []) (kr_isPlayer (v := pl)) (by decide) mi_X12_isPlayer lk_X12_90 rfl (Nat.le_of_ble_eq_true rfl) rfl rfl dX12_stand_1 ?_
  intro v1 μ2 h3
  obtain ⟨rfl, rfl⟩ := h3
  refine JJ_r1 ?_
  refine JJ_if_eq (tgt := 17) dX12_stand_4 (by decide) (fun c4 => ?_) (fun c4 => ?_)
  · skip
    refine JJ_ldcw (v := (-100000)) dX12_stand_17 tb_1312 ?_
    refine JJ_iret dX12_stand_20 rfl ?_
    exact ans_i (if_pos (fun z => b2_0.mp c4 z.1)).symm
  · skip
    refine JJ_iload_n dX12_stand_7 rfl rfl ?_
    refine JJ_i2l dX12_stand_8 ?_
    refine JJ_lconst (v := 0) dX12_stand_9 rfl ?_
    refine JJ_lconst (v := 1) dX12_stand_10 rfl ?_
    refine JJ_callS (rest := []) (kr_in32 (v := what) (lo := 0) (hi := 1) (a := 0) (b := 1) rfl rfl) (by decide) mi_X12_in lk_X12_82 rfl (Nat.le_of_ble_eq_true rfl) rfl rfl dX12_stand_11 ?_
    intro v5 μ6 h7
    obtain ⟨rfl, rfl⟩ := h7
    refine JJ_r1 ?_
    refine JJ_if_ne (tgt := 21) dX12_stand_14 (by decide) (fun c8 => ?_) (fun c8 => ?_)
    · skip
      refine JJ_iconst (v := (-1)) dX12_stand_21 rfl ?_
      refine JJ_istore_n (lv' := [(3, .int ((-1))), (0, .ref o), (1, .int pl), (2, .int what)]) dX12_stand_22 rfl (by decide) rfl ?_
      refine JJ_iconst (v := 0) dX12_stand_23 rfl ?_
      refine JJ_istore (lv' := [(4, .int 0), (3, .int ((-1))), (0, .ref o), (1, .int pl), (2, .int what)]) dX12_stand_24 (by decide) rfl ?_
      refine JJ_iconst (v := 0) dX12_stand_26 rfl ?_
      refine JJ_istore (lv' := [(5, .int 0), (4, .int 0), (3, .int ((-1))), (0, .ref o), (1, .int pl), (2, .int what)]) dX12_stand_27 (by decide) rfl ?_
      obtain ⟨p, hp1, rfl⟩ := n_of (m := 1) (by decide) (b2_n.mp c4)
      have e0 : zr_stand A (nI p) what = if what = 0 then (zleast (fun c => zbad A p (nI c)) 25).1 else (zleast (fun c => zbad A p (nI c)) 25).2 := by
        unfold zr_stand
        rw [if_neg (fun z => z ⟨b2_n.mp c4, b2_n.mp c8⟩), i2n_1 hp1]
      have key : ∀ (d c : Nat) (fd le : Int32), c + d = 25 → fd = (zleast (fun c => zbad A p (nI c)) c).1 → le = (zleast (fun c => zbad A p (nI c)) c).2 → JJ G sc yX12_stand cX12_stand 7 (some .int) 63 0 0 (ansI (zr_stand A (nI p) what) (n, S, M, L, P)) 29 [(5, .int (nI c)), (4, .int le), (3, .int fd), (0, .ref o), (1, .int (nI p)), (2, .int what)] [] (n, S, M, L, P) := by
        intro d
        induction d with
        | zero =>
          intro c fd le hk hfd hle
          refine JJ_iload dX12_stand_29 rfl ?_
          refine JJ_bipush (v := 25) dX12_stand_31 rfl ?_
          refine JJ_icmp_ge (tgt := 70) dX12_stand_33 (by decide) (fun _ => ?_) (fun c9 => absurd (nI_le (a := 25) (by omega) (by omega)) c9)
          refine JJ_iload_n dX12_stand_70 rfl rfl ?_
          refine JJ_if_ne (tgt := 78) dX12_stand_71 (by decide) (fun c10 => ?_) (fun c10 => ?_)
          · skip
            refine JJ_iload dX12_stand_78 rfl ?_
            refine JJ_iret dX12_stand_80 rfl ?_
            obtain rfl : c = 25 := by omega
            exact ans_i (by rw [e0, if_neg c10]; assumption)
          · skip
            refine JJ_iload_n dX12_stand_74 rfl rfl ?_
            refine JJ_goto (tgt := 80) dX12_stand_75 (by decide) ?_
            refine JJ_iret dX12_stand_80 rfl ?_
            obtain rfl : c = 25 := by omega
            exact ans_i (by rw [e0, if_pos c10]; assumption)
        | succ d ihd =>
          intro c fd le hk hfd hle
          refine JJ_iload dX12_stand_29 rfl ?_
          refine JJ_bipush (v := 25) dX12_stand_31 rfl ?_
          refine JJ_icmp_ge (tgt := 70) dX12_stand_33 (by decide) (fun c11 => absurd c11 (nI_ge (b := 25) (by omega) (by omega))) (fun _ => ?_)
          refine JJ_aload_n dX12_stand_36 rfl rfl ?_
          refine JJ_iload_n dX12_stand_37 rfl rfl ?_
          refine JJ_iload dX12_stand_38 rfl ?_
          refine JJ_callV (rest := []) hR.1 rfl rfl (kr_badness (p := p) (c0 := nI c) (by omega) hA hg hR hN) (by decide) mi_X12_badness lk_X12_334 rfl (Nat.le_of_ble_eq_true rfl) rfl rfl dX12_stand_40 ?_
          intro v12 μ13 h14
          obtain ⟨rfl, rfl⟩ := h14
          refine JJ_r1 ?_
          refine JJ_istore (lv' := [(6, .int (zbad A p (nI c))), (5, .int (nI c)), (4, .int le), (3, .int fd), (0, .ref o), (1, .int (nI p)), (2, .int what)]) dX12_stand_43 (by decide) rfl ?_
          refine JJ_iload_n dX12_stand_45 rfl rfl ?_
          refine JJ_iconst (v := (-1)) dX12_stand_46 rfl ?_
          refine JJ_icmp_eq (tgt := 57) dX12_stand_47 (by decide) (fun c15 => ?_) (fun c15 => ?_)
          · skip
            refine JJ_iload dX12_stand_57 rfl ?_
            refine JJ_istore_n (lv' := [(3, .int (nI c)), (6, .int (zbad A p (nI c))), (5, .int (nI c)), (4, .int le), (0, .ref o), (1, .int (nI p)), (2, .int what)]) dX12_stand_59 rfl (by decide) rfl ?_
            refine JJ_iload dX12_stand_60 rfl ?_
            refine JJ_istore (lv' := [(4, .int (zbad A p (nI c))), (3, .int (nI c)), (6, .int (zbad A p (nI c))), (5, .int (nI c)), (0, .ref o), (1, .int (nI p)), (2, .int what)]) dX12_stand_62 (by decide) rfl ?_
            refine JJ_iinc (v := nI (c + 1)) (lv' := [(5, .int (nI (c + 1))), (4, .int (zbad A p (nI c))), (3, .int (nI c)), (6, .int (zbad A p (nI c))), (0, .ref o), (1, .int (nI p)), (2, .int what)]) dX12_stand_64 rfl (nI_add (c) 1) (by decide) rfl ?_
            refine JJ_goto (tgt := 29) dX12_stand_67 (by decide) ?_
            refine JJ.pick [0, 1, 2, 4, 5, 6] rfl ?_
            have es : zleast (fun c => zbad A p (nI c)) (c + 1) = (nI c, zbad A p (nI c)) := if_pos (Or.inl (hfd.symm.trans c15))
            refine ihd (c + 1) _ _ (by omega) (by rw [es]) (by rw [es])
          · skip
            refine JJ_iload dX12_stand_50 rfl ?_
            refine JJ_iload dX12_stand_52 rfl ?_
            refine JJ_icmp_ge (tgt := 64) dX12_stand_54 (by decide) (fun c16 => ?_) (fun c16 => ?_)
            · skip
              refine JJ_iinc (v := nI (c + 1)) (lv' := [(5, .int (nI (c + 1))), (6, .int (zbad A p (nI c))), (4, .int le), (3, .int fd), (0, .ref o), (1, .int (nI p)), (2, .int what)]) dX12_stand_64 rfl (nI_add (c) 1) (by decide) rfl ?_
              refine JJ_goto (tgt := 29) dX12_stand_67 (by decide) ?_
              refine JJ.pick [0, 2, 3, 4, 5, 6] rfl ?_
              have es : zleast (fun c => zbad A p (nI c)) (c + 1) = zleast (fun c => zbad A p (nI c)) c := if_neg (fun h => h.elim (fun e => c15 (hfd.trans e)) (fun q => absurd (show (zleast (fun c => zbad A p (nI c)) c).2 ≤ zbad A p (nI c) from hle ▸ c16) (Int32.not_le.mpr q)))
              refine ihd (c + 1) _ _ (by omega) (by rw [es]; exact hfd) (by rw [es]; exact hle)
            · skip
              refine JJ_iload dX12_stand_57 rfl ?_
              refine JJ_istore_n (lv' := [(3, .int (nI c)), (6, .int (zbad A p (nI c))), (5, .int (nI c)), (4, .int le), (0, .ref o), (1, .int (nI p)), (2, .int what)]) dX12_stand_59 rfl (by decide) rfl ?_
              refine JJ_iload dX12_stand_60 rfl ?_
              refine JJ_istore (lv' := [(4, .int (zbad A p (nI c))), (3, .int (nI c)), (6, .int (zbad A p (nI c))), (5, .int (nI c)), (0, .ref o), (1, .int (nI p)), (2, .int what)]) dX12_stand_62 (by decide) rfl ?_
              refine JJ_iinc (v := nI (c + 1)) (lv' := [(5, .int (nI (c + 1))), (4, .int (zbad A p (nI c))), (3, .int (nI c)), (6, .int (zbad A p (nI c))), (0, .ref o), (1, .int (nI p)), (2, .int what)]) dX12_stand_64 rfl (nI_add (c) 1) (by decide) rfl ?_
              refine JJ_goto (tgt := 29) dX12_stand_67 (by decide) ?_
              refine JJ.pick [0, 1, 2, 4, 5, 6] rfl ?_
              have es : zleast (fun c => zbad A p (nI c)) (c + 1) = (nI c, zbad A p (nI c)) := if_pos (Or.inr (Int32.not_le.mp (fun q => c16 (hle ▸ q))))
              refine ihd (c + 1) _ _ (by omega) (by rw [es]) (by rw [es])
      refine JJ.pick [0, 1, 2, 3, 4, 5] rfl ?_
      exact key 25 0 _ _ (by omega) rfl rfl
    · skip
      refine JJ_ldcw (v := (-100000)) dX12_stand_17 tb_1312 ?_
      refine JJ_iret dX12_stand_20 rfl ?_
      exact ans_i (if_pos (fun z => b2_0.mp c8 z.2)).symm
set_option maxHeartbeats 4000000 in
set_option maxRecDepth 100000 in
theorem kr_tires {pl : Int32} {A : Abs} (hA : rABS o M A) (hg : RNG A) (hR : RWF o S P) (hN : HSR o sc) : KK G sc yX12_tires cX12_tires 8 (some .int) 66 0 0 [.ref o, .int pl] (n, S, M, L, P) (qI o n S M P (zr_tires A pl)) := by
  refine KK_of2 [(0, .ref o), (1, .int pl)] (by decide +kernel) (Nat.le_of_ble_eq_true rfl) rfl ?_
  refine JJ_iload_n dX12_tires_0 rfl rfl ?_
  refine JJ_callS (rest := []) (kr_isPlayer (v := pl)) (by decide) mi_X12_isPlayer lk_X12_90 rfl (Nat.le_of_ble_eq_true rfl) rfl rfl dX12_tires_1 ?_
  intro v1 μ2 h3
  obtain ⟨rfl, rfl⟩ := h3
  refine JJ_r1 ?_
  refine JJ_if_ne (tgt := 10) dX12_tires_4 (by decide) (fun c4 => ?_) (fun c4 => ?_)
  · skip
    obtain ⟨p, hp1, rfl⟩ := n_of (m := 1) (by decide) (b2_n.mp c4)
    have hp : p < 2 := by omega
    have e0 : zr_tires A (nI p) = (ztir A p (zcnt A)).1 := by
      unfold zr_tires
      rw [if_neg (fun z => z (b2_n.mp c4)), i2n_1 hp1]
    refine JJ_iconst (v := (-1)) dX12_tires_10 rfl ?_
    refine JJ_istore_n (lv' := [(2, .int ((-1))), (0, .ref o), (1, .int (nI p))]) dX12_tires_11 rfl (by decide) rfl ?_
    refine JJ_iconst (v := (-1)) dX12_tires_12 rfl ?_
    refine JJ_istore_n (lv' := [(3, .int ((-1))), (2, .int ((-1))), (0, .ref o), (1, .int (nI p))]) dX12_tires_13 rfl (by decide) rfl ?_
    refine JJ_aload_n dX12_tires_14 rfl rfl ?_
    refine JJ_getr (q := o + 4) (cis := [12]) (k := 7) fa_X12_23 (by decide) hR.1 rfl (hR.2 (7, 4, 20, 2) (by decide)).1 dX12_tires_15 ?_
    refine JJ_iconst (v := 1) dX12_tires_18 rfl ?_
    refine JJ_iload_n dX12_tires_19 rfl rfl ?_
    refine JJ_isub dX12_tires_20 ?_
    refine JJ_eqi (x2 := nI (1 - p)) (e_sub1 hp) ?_
    refine JJ_ialdX (v := A.1 0 (1 - p)) (hR.2 (7, 4, 20, 2) (by decide)).2 (IX_nI (by omega) (by omega)) (hN.2.1 4 _ (by decide) (by decide)) (hA.c4 (by omega)) dX12_tires_21 ?_
    refine JJ_istore (lv' := [(4, .int (A.1 0 (1 - p))), (3, .int ((-1))), (2, .int ((-1))), (0, .ref o), (1, .int (nI p))]) dX12_tires_22 (by decide) rfl ?_
    refine JJ_iconst (v := 0) dX12_tires_24 rfl ?_
    refine JJ_istore (lv' := [(5, .int 0), (4, .int (A.1 0 (1 - p))), (3, .int ((-1))), (2, .int ((-1))), (0, .ref o), (1, .int (nI p))]) dX12_tires_25 (by decide) rfl ?_
    obtain ⟨cn, hc6, hcA, hcZ⟩ := cnt_e hg
    have hcM : M o 15 = nI cn := hA.cnt.trans hcA
    have key : ∀ (d k : Nat) (mo fd : Int32) (Mx : Nat → Nat → Int32), k + d = cn → fd = (ztir A p k).1 → mo = (ztir A p k).2 → (∀ b k, ¬ TDa o 0 b k → Mx b k = M b k) → JJ G sc yX12_tires cX12_tires 8 (some .int) 66 0 0 (qI o n S M P (zr_tires A (nI p))) 27 [(5, .int (nI k)), (4, .int (A.1 0 (1 - p))), (3, .int mo), (2, .int fd), (0, .ref o), (1, .int (nI p))] [] (n, S, Mx, L, P) := by
      intro d
      induction d with
      | zero =>
        intro k mo fd Mx hk hfd hmo hx
        refine JJ_iload dX12_tires_27 rfl ?_
        refine JJ_aload_n dX12_tires_29 rfl rfl ?_
        refine JJ_geti (v := nI cn) (cis := [12]) (k := 15) fa_X12_79 (by decide) hR.1 rfl (hN.1 15 (by decide)) ((hx _ _ (by unfold TDa; omega)).trans hcM) dX12_tires_30 ?_
        refine JJ_icmp_ge (tgt := 87) dX12_tires_33 (by decide) (fun _ => ?_) (fun c5 => absurd (nI_le (by omega) (by omega)) c5)
        refine JJ_iload_n dX12_tires_87 rfl rfl ?_
        refine JJ_iret dX12_tires_88 rfl ?_
        exact qI_r (by rw [e0, hcZ, hfd, show k = cn by omega]) (fun b k z => hx b k (fun q => z q.td))
      | succ d ihd =>
        intro k mo fd Mx hk hfd hmo hx
        have hAx : rABSg o 0 Mx A := hA.keep (fun b k z => hx b k (fun q => z q.td))
        refine JJ_iload dX12_tires_27 rfl ?_
        refine JJ_aload_n dX12_tires_29 rfl rfl ?_
        refine JJ_geti (v := nI cn) (cis := [12]) (k := 15) fa_X12_79 (by decide) hR.1 rfl (hN.1 15 (by decide)) ((hx _ _ (by unfold TDa; omega)).trans hcM) dX12_tires_30 ?_
        refine JJ_icmp_ge (tgt := 87) dX12_tires_33 (by decide) (fun c6 => absurd c6 (nI_ge (by omega) (by omega))) (fun _ => ?_)
        refine JJ_aload_n dX12_tires_36 rfl rfl ?_
        refine JJ_callV (rest := []) hR.1 rfl rfl (kr_layAside (a := 0) hAx.as (by omega) hR hN) (by decide) mi_X12_layAside lk_X12_315 rfl (Nat.le_of_ble_eq_true rfl) rfl rfl dX12_tires_37 ?_
        intro v7 μ8 h9
        obtain ⟨rfl, Ma, rfl, hla⟩ := h9
        refine JJ_r0 ?_
        have hAa := laid_abs hAx hla
        refine JJ_aload_n dX12_tires_40 rfl rfl ?_
        refine JJ_iload_n dX12_tires_41 rfl rfl ?_
        refine JJ_iload dX12_tires_42 rfl ?_
        refine JJ_callV (rest := []) hR.1 rfl rfl (kr_strikes (E := zE A) (k := k) (p := p) hp (by omega) hR hN (hAa.rtx hg)) (by decide) mi_X12_strikes lk_X12_302 rfl (Nat.le_of_ble_eq_true rfl) rfl rfl dX12_tires_44 ?_
        intro v10 μ11 h12
        obtain ⟨rfl, rfl⟩ := h12
        refine JJ_r1 ?_
        refine JJ_eqi (x2 := b2 (zw A k p)) (b2_c (strk_A hAa hp (by omega)).1) ?_
        refine JJ_nm (fun Mb hMb => ?_)
        have hob := strk_off hMb
        have hct := (rd_s hMb).trans (strk_A hAa hp (q := k) (by omega)).2.2
        refine JJ_istore (lv' := [(6, .int (b2 (zw A k p))), (5, .int (nI k)), (4, .int (A.1 0 (1 - p))), (3, .int mo), (2, .int fd), (0, .ref o), (1, .int (nI p))]) dX12_tires_47 (by decide) rfl ?_
        refine JJ_aload_n dX12_tires_49 rfl rfl ?_
        refine JJ_callV (rest := []) hR.1 rfl rfl (kr_takeBack (a := 0) (lst33 hla hob (fun b k _ _ _ _ => rfl)) (by omega) hR hN) (by decide) mi_X12_takeBack lk_X12_322 rfl (Nat.le_of_ble_eq_true rfl) rfl rfl dX12_tires_50 ?_
        intro v13 μ14 h15
        obtain ⟨rfl, Md, rfl, htk⟩ := h15
        refine JJ_r0 ?_
        have hfr := lst hla hob (fun b k _ _ _ _ => rfl) htk hAx.as
        refine JJ_iload dX12_tires_53 rfl ?_
        refine JJ_aload_n dX12_tires_55 rfl rfl ?_
        refine JJ_geti (v := zto A k p) (cis := [12]) (k := 31) fa_X12_276 (by decide) hR.1 rfl (hN.1 31 (by decide)) ((htk.2.2.2.2 _ _ (by omega) (by omega) (by omega)).trans hct) dX12_tires_56 ?_
        refine JJ_callS (rest := []) (kr_far (a := A.1 0 (1 - p)) (b := zto A k p)) (by decide) mi_X12_farOf lk_X12_255 rfl (Nat.le_of_ble_eq_true rfl) rfl rfl dX12_tires_59 ?_
        intro v16 μ17 h18
        obtain ⟨rfl, rfl⟩ := h18
        refine JJ_r1 ?_
        refine JJ_istore (lv' := [(7, .int (s_far (A.1 0 (1 - p)) (zto A k p))), (6, .int (b2 (zw A k p))), (5, .int (nI k)), (4, .int (A.1 0 (1 - p))), (3, .int mo), (2, .int fd), (0, .ref o), (1, .int (nI p))]) dX12_tires_62 (by decide) rfl ?_
        refine JJ_iload dX12_tires_64 rfl ?_
        refine JJ_if_ne (tgt := 81) dX12_tires_66 (by decide) (fun c19 => ?_) (fun c19 => ?_)
        · skip
          refine JJ_iinc (v := nI (k + 1)) (lv' := [(5, .int (nI (k + 1))), (7, .int (s_far (A.1 0 (1 - p)) (zto A k p))), (6, .int (b2 (zw A k p))), (4, .int (A.1 0 (1 - p))), (3, .int mo), (2, .int fd), (0, .ref o), (1, .int (nI p))]) dX12_tires_81 rfl (nI_add (k) 1) (by decide) rfl ?_
          refine JJ_goto (tgt := 27) dX12_tires_84 (by decide) ?_
          have es : ztir A p (k + 1) = ztir A p k := if_neg (fun h => h.1 (b2_n.mp c19))
          refine JJ.pick [0, 3, 4, 5, 6, 7] rfl ?_
          refine ihd (k + 1) _ _ _ (by omega) (by rw [es]; exact hfd) (by rw [es]; exact hmo) (fun b k z => (hfr b k z).trans (hx b k z))
        · skip
          refine JJ_iload dX12_tires_69 rfl ?_
          refine JJ_iload_n dX12_tires_71 rfl rfl ?_
          refine JJ_icmp_le (tgt := 81) dX12_tires_72 (by decide) (fun c20 => ?_) (fun c20 => ?_)
          · skip
            refine JJ_iinc (v := nI (k + 1)) (lv' := [(5, .int (nI (k + 1))), (7, .int (s_far (A.1 0 (1 - p)) (zto A k p))), (6, .int (b2 (zw A k p))), (4, .int (A.1 0 (1 - p))), (3, .int mo), (2, .int fd), (0, .ref o), (1, .int (nI p))]) dX12_tires_81 rfl (nI_add (k) 1) (by decide) rfl ?_
            refine JJ_goto (tgt := 27) dX12_tires_84 (by decide) ?_
            have es : ztir A p (k + 1) = ztir A p k := if_neg (fun h => absurd (show s_far (A.1 0 (1 - p)) (zto A k p) ≤ (ztir A p k).2 from hmo ▸ c20) (Int32.not_le.mpr h.2))
            refine JJ.pick [0, 3, 4, 5, 6, 7] rfl ?_
            refine ihd (k + 1) _ _ _ (by omega) (by rw [es]; exact hfd) (by rw [es]; exact hmo) (fun b k z => (hfr b k z).trans (hx b k z))
          · skip
            refine JJ_iload dX12_tires_75 rfl ?_
            refine JJ_istore_n (lv' := [(2, .int (nI k)), (7, .int (s_far (A.1 0 (1 - p)) (zto A k p))), (6, .int (b2 (zw A k p))), (5, .int (nI k)), (4, .int (A.1 0 (1 - p))), (3, .int mo), (0, .ref o), (1, .int (nI p))]) dX12_tires_77 rfl (by decide) rfl ?_
            refine JJ_iload dX12_tires_78 rfl ?_
            refine JJ_istore_n (lv' := [(3, .int (s_far (A.1 0 (1 - p)) (zto A k p))), (2, .int (nI k)), (7, .int (s_far (A.1 0 (1 - p)) (zto A k p))), (6, .int (b2 (zw A k p))), (5, .int (nI k)), (4, .int (A.1 0 (1 - p))), (0, .ref o), (1, .int (nI p))]) dX12_tires_80 rfl (by decide) rfl ?_
            refine JJ_iinc (v := nI (k + 1)) (lv' := [(5, .int (nI (k + 1))), (3, .int (s_far (A.1 0 (1 - p)) (zto A k p))), (2, .int (nI k)), (7, .int (s_far (A.1 0 (1 - p)) (zto A k p))), (6, .int (b2 (zw A k p))), (4, .int (A.1 0 (1 - p))), (0, .ref o), (1, .int (nI p))]) dX12_tires_81 rfl (nI_add (k) 1) (by decide) rfl ?_
            refine JJ_goto (tgt := 27) dX12_tires_84 (by decide) ?_
            have es : ztir A p (k + 1) = (nI k, s_far (A.1 0 (1 - p)) (zto A k p)) := if_pos ⟨b2_0.mp c19, Int32.not_le.mp (fun q => c20 (hmo ▸ q))⟩
            refine JJ.pick [0, 5, 1, 2, 6, 7] rfl ?_
            refine ihd (k + 1) _ _ _ (by omega) (by rw [es]) (by rw [es]) (fun b k z => (hfr b k z).trans (hx b k z))
    refine JJ.pick [0, 1, 2, 3, 4, 5] rfl ?_
    exact key cn 0 _ _ _ (by omega) rfl rfl (fun _ _ _ => rfl)
  · skip
    refine JJ_bipush (v := (-2)) dX12_tires_7 rfl ?_
    refine JJ_iret dX12_tires_9 rfl ?_
    exact qI_n (if_pos (fun z => b2_0.mp c4 z)).symm
end REF8
