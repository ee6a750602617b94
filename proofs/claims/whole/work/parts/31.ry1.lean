section RY1
variable {G : Gx} {sc : Nat → Nat → Prop} {n : Nat} {S : Nat → Nat × Nat} {M : Nat → Nat → Int32} {L : Nat → Nat → Int64} {P : Nat → Nat → Option Nat} {o : Nat} {r m f : Nat} {b : Nat → Int32} {nm : Nms}

set_option maxHeartbeats 4000000 in
set_option maxRecDepth 100000 in
theorem kp_atom0 (hB : ∀ i, i < m → 0 ≤ (b i).toInt) (hR : RWF o S P) (hX : HX o sc) : ∀ (i : Nat) (M : Nat → Nat → Int32) (L : Nat → Nat → Int64), PST o r m b nm 0 i M L → KK G sc yX12_atom cX12_atom 2 (some .int) 5 0 0 [.ref o] (n, S, M, L, P) (PPO o r m b nm 0 i n S P (gOne b m false pNo pNo i) M L) := by
  intro i M L hp
  refine KK_of2 [(0, .ref o)] (by decide +kernel) (Nat.le_of_ble_eq_true rfl) rfl ?_
  refine JJ_iconst (v := 0) dX12_atom_0 rfl ?_
  refine JJ_istore_n (lv' := [(1, .int 0), (0, .ref o)]) dX12_atom_1 rfl (by decide) rfl ?_
  refine JJ_aload_n dX12_atom_2 rfl rfl ?_
  refine JJ_bipush (v := 45) dX12_atom_3 rfl ?_
  refine JJ_callV (rest := []) hR.1 rfl rfl (kp_isSign (c := 45) hp.2.2.2.1 hp.2.2.2.2.2.2 (by decide) hR hX) (by omega) mi_X12_isSign lk_X12_199 rfl (Nat.le_of_ble_eq_true rfl) rfl rfl dX12_atom_5 ?_
  intro v1 μ2 h3
  obtain ⟨rfl, rfl⟩ := h3
  refine JJ_r1 ?_
  refine JJ_if_eq (tgt := 37) dX12_atom_8 (by decide) (fun c4 => ?_) (fun c4 => ?_)
  · skip
    refine JJ_aload_n dX12_atom_37 rfl rfl ?_
    refine JJ_bipush (v := 40) dX12_atom_38 rfl ?_
    refine JJ_callV (rest := []) hR.1 rfl rfl (kp_isSign (c := 40) hp.2.2.2.1 hp.2.2.2.2.2.2 (by decide) hR hX) (by omega) mi_X12_isSign lk_X12_199 rfl (Nat.le_of_ble_eq_true rfl) rfl rfl dX12_atom_40 ?_
    intro v5 μ6 h7
    obtain ⟨rfl, rfl⟩ := h7
    refine JJ_r1 ?_
    refine JJ_if_eq (tgt := 95) dX12_atom_43 (by decide) (fun c8 => ?_) (fun c8 => ?_)
    · skip
      refine JJ_aload_n dX12_atom_95 rfl rfl ?_
      refine JJ_geti (v := 0) (cis := [12]) (k := 29) fa_X12_157 (by decide) hR.1 rfl (hX.1 29) hp.2.2.2.1 dX12_atom_96 ?_
      refine JJ_if_ne (tgt := 123) dX12_atom_99 (by decide) (fun c9 => absurd (by decide) c9) (fun _ => ?_)
      refine JJ_aload_n dX12_atom_102 rfl rfl ?_
      refine JJ_geti (v := M o 25) (cis := [12]) (k := 25) fa_X12_140 (by decide) hR.1 rfl (hX.1 25) rfl dX12_atom_103 ?_
      refine JJ_iconst (v := 2) dX12_atom_106 rfl ?_
      refine JJ_icmp_ne (tgt := 123) dX12_atom_107 (by decide) (fun c10 => ?_) (fun c10 => ?_)
      · skip
        refine JJ_aload_n dX12_atom_123 rfl rfl ?_
        refine JJ_geti (v := 0) (cis := [12]) (k := 29) fa_X12_157 (by decide) hR.1 rfl (hX.1 29) hp.2.2.2.1 dX12_atom_124 ?_
        refine JJ_if_ne (tgt := 157) dX12_atom_127 (by decide) (fun c11 => absurd (by decide) c11) (fun _ => ?_)
        refine JJ_aload_n dX12_atom_130 rfl rfl ?_
        refine JJ_geti (v := M o 25) (cis := [12]) (k := 25) fa_X12_140 (by decide) hR.1 rfl (hX.1 25) rfl dX12_atom_131 ?_
        refine JJ_iconst (v := 1) dX12_atom_134 rfl ?_
        refine JJ_icmp_ne (tgt := 157) dX12_atom_135 (by decide) (fun c12 => ?_) (fun c12 => ?_)
        · skip
          refine JJ_aload_n dX12_atom_157 rfl rfl ?_
          refine JJ_callV (rest := []) hR.1 rfl rfl (kp_fail0 hp.2.2.2.1 hR hX) (by omega) mi_X12_fail lk_X12_171 rfl (Nat.le_of_ble_eq_true rfl) rfl rfl dX12_atom_158 ?_
          intro v13 μ14 h15
          obtain ⟨rfl, rfl⟩ := h15
          refine JJ_r0 ?_
          refine JJ_iload_n dX12_atom_161 rfl rfl ?_
          refine JJ_iret dX12_atom_162 rfl ?_
          exact ⟨_, _, L, rfl, rfl, (fun b k z => ((fl_n z).trans rfl)), fun _ _ _ => rfl, by rw [gO_no (tks_n1 hp.2.2.2.2.2.2 c10) (tks_n2 hp.2.2.2.2.2.2 c12) (b2_0.mp c4) (b2_0.mp c8), tok_s]; exact ⟨(up2_n (by omega)).trans up2_s, up2_s.trans hp.2.2.2.2.2.2.2.1⟩⟩
        · skip
          refine JJ_aload_n dX12_atom_138 rfl rfl ?_
          have h25 := c12
          have hnk := kp_name (sc := sc) (L := L) (P := P) (S := S) (n := n) (G := G) hp.1 hp.2.2.2.1 (hp.2.1.symm ▸ hp.2.2.2.2.2.2) h25 hR hX
          rw [hp.2.1] at hnk
          by_cases hz : wname b (skB b m i) (skL b m (skB b m i)) = 0
          · skip
            refine JJ_callV (rest := []) hR.1 rfl rfl (KK_mono hnk (fun v μ hv => (ite_1 hz hv : v = some (.int 0) ∧ μ = (n, S, (up2 (up2 M o 29 1) o 30 (M o 26)), L, P)))) (by omega) mi_X12_name lk_X12_213 rfl (Nat.le_of_ble_eq_true rfl) rfl rfl dX12_atom_139 ?_
            intro v16 μ17 h18
            obtain ⟨rfl, rfl⟩ := h18
            refine JJ_r1 ?_
            refine JJ_istore_n (lv' := [(1, .int 0), (0, .ref o)]) dX12_atom_142 rfl (by decide) rfl ?_
            refine JJ_aload_n dX12_atom_143 rfl rfl ?_
            refine JJ_geti (v := 1) (cis := [12]) (k := 29) fa_X12_157 (by decide) hR.1 rfl (hX.1 29) ((up2_n (by omega)).trans up2_s) dX12_atom_144 ?_
            refine JJ_if_ne (tgt := 161) dX12_atom_147 (by decide) (fun _ => ?_) (fun c19 => absurd c19 (by decide))
            refine JJ_iload_n dX12_atom_161 rfl rfl ?_
            refine JJ_iret dX12_atom_162 rfl ?_
            exact ⟨_, _, L, rfl, rfl, (fun b k z => ((fl_n z).trans rfl)), fun _ _ _ => rfl, by rw [gO_no (by rw [tks_wk hp.2.2.2.2.2.2 h25 hz]; exact wkey_12.1) (by rw [tks_wk hp.2.2.2.2.2.2 h25 hz]; exact wkey_12.2) (by rw [tks_wk hp.2.2.2.2.2.2 h25 hz]; exact wkey_ns (by decide)) (by rw [tks_wk hp.2.2.2.2.2.2 h25 hz]; exact wkey_ns (by decide)), tok_s]; exact ⟨(up2_n (by omega)).trans up2_s, up2_s.trans hp.2.2.2.2.2.2.2.1⟩⟩
          · skip
            have hwn := tks_wn hp.2.2.2.2.2.2 h25 hz
            have htk : (tok b m i).1 = 2 := by rw [hwn]
            have h24 : M o 24 = nI (tok b m i).2.2.2 := tks_ky24 hp.2.2.2.2.2.2 h25
            refine JJ_callV (rest := []) hR.1 rfl rfl (KK_mono hnk (fun v μ hv => (ite_0 hz hv : v = some (.int (M o (16 + (-1 - wname b (skB b m i) (skL b m (skB b m i))).toNatClampNeg))) ∧ μ = (n, S, M, L, P)))) (by omega) mi_X12_name lk_X12_213 rfl (Nat.le_of_ble_eq_true rfl) rfl rfl dX12_atom_139 ?_
            intro v20 μ21 h22
            obtain ⟨rfl, rfl⟩ := h22
            refine JJ_r1 ?_
            refine JJ_istore_n (lv' := [(1, .int (M o (16 + (-1 - wname b (skB b m i) (skL b m (skB b m i))).toNatClampNeg))), (0, .ref o)]) dX12_atom_142 rfl (by decide) rfl ?_
            refine JJ_aload_n dX12_atom_143 rfl rfl ?_
            refine JJ_geti (v := 0) (cis := [12]) (k := 29) fa_X12_157 (by decide) hR.1 rfl (hX.1 29) hp.2.2.2.1 dX12_atom_144 ?_
            refine JJ_if_ne (tgt := 161) dX12_atom_147 (by decide) (fun c23 => absurd (by decide) c23) (fun _ => ?_)
            refine JJ_aload_n dX12_atom_150 rfl rfl ?_
            have hte := tks_e hp.2.2.2.2.2.2 (by rw [htk]; decide)
            refine JJ_callV (rest := []) hR.1 rfl rfl (kp_nx (f := 0) hp.1 hp.2.1 hte.2.2 hp.2.2.2.1 hp.2.2.2.2.1 hp.2.2.2.2.2.1 hB h24 hR hX) (by omega) mi_X12_next lk_X12_174 rfl (Nat.le_of_ble_eq_true rfl) rfl rfl dX12_atom_151 ?_
            intro v24 μ25 h26
            obtain ⟨rfl, Md, Ld, rfl, hpd, hfd, hld⟩ := h26
            refine JJ_r0 ?_
            refine JJ_goto (tgt := 161) dX12_atom_154 (by decide) ?_
            refine JJ_iload_n dX12_atom_161 rfl rfl ?_
            refine JJ_iret dX12_atom_162 rfl ?_
            exact ⟨_, Md, Ld, rfl, rfl, hfd, hld, by rw [gO_nam hwn]; rw [hwn] at hpd hte; exact ⟨hp.2.2.2.2.2.1 _ (wname_lt.resolve_right hz), hte.2.1, hpd⟩⟩
      · skip
        have hnu := tks_num hp.2.2.2.2.2.2 c10
        have htk : (tok b m i).1 = 1 := by rw [hnu.1]
        have h24 := hnu.2
        refine JJ_aload_n dX12_atom_110 rfl rfl ?_
        refine JJ_getl (v := L o 27) (cis := [12]) (k := 27) fa_X12_151 (by decide) hR.1 rfl (hX.1 27) rfl dX12_atom_111 ?_
        refine JJ_l2i dX12_atom_114 ?_
        refine JJ_istore_n (lv' := [(1, .int ((L o 27).toInt32)), (0, .ref o)]) dX12_atom_115 rfl (by decide) rfl ?_
        refine JJ_aload_n dX12_atom_116 rfl rfl ?_
        have hte := tks_e hp.2.2.2.2.2.2 (by rw [htk]; decide)
        refine JJ_callV (rest := []) hR.1 rfl rfl (kp_nx (f := 0) hp.1 hp.2.1 hte.2.2 hp.2.2.2.1 hp.2.2.2.2.1 hp.2.2.2.2.2.1 hB h24 hR hX) (by omega) mi_X12_next lk_X12_174 rfl (Nat.le_of_ble_eq_true rfl) rfl rfl dX12_atom_117 ?_
        intro v27 μ28 h29
        obtain ⟨rfl, Md, Ld, rfl, hpd, hfd, hld⟩ := h29
        refine JJ_r0 ?_
        refine JJ_goto (tgt := 161) dX12_atom_120 (by decide) ?_
        refine JJ_iload_n dX12_atom_161 rfl rfl ?_
        refine JJ_iret dX12_atom_162 rfl ?_
        exact ⟨_, Md, Ld, rfl, rfl, hfd, hld, by rw [gO_num hnu.1]; rw [hnu.1] at hpd hte; exact ⟨rfl, hte.2.1, hpd⟩⟩
    · skip
      refine JJ_aload_n dX12_atom_46 rfl rfl ?_
      have htk := b2_n.mp c8
      refine JJ_callV (rest := []) hR.1 rfl rfl (kp_opens0 rfl hp hR hX) (by omega) mi_X12_opens lk_X12_202 rfl (Nat.le_of_ble_eq_true rfl) rfl rfl dX12_atom_47 ?_
      intro v30 μ31 h32
      obtain ⟨rfl, rfl⟩ := h32
      refine JJ_r1 ?_
      refine JJ_if_eq (tgt := 161) dX12_atom_50 (by decide) (fun _ => ?_) (fun c33 => absurd (by decide) c33)
      refine JJ_iload_n dX12_atom_161 rfl rfl ?_
      refine JJ_iret dX12_atom_162 rfl ?_
      exact ⟨_, _, L, rfl, rfl, (fun b k z => ((fl_n z).trans rfl)), fun _ _ _ => rfl, by rw [gP_0 htk, tok_s]; exact ⟨(up2_n (by omega)).trans up2_s, up2_s.trans hp.2.2.2.2.2.2.2.1⟩⟩
  · skip
    refine JJ_aload_n dX12_atom_11 rfl rfl ?_
    have htk := b2_n.mp c4
    refine JJ_callV (rest := []) hR.1 rfl rfl (kp_opens0 rfl hp hR hX) (by omega) mi_X12_opens lk_X12_202 rfl (Nat.le_of_ble_eq_true rfl) rfl rfl dX12_atom_12 ?_
    intro v34 μ35 h36
    obtain ⟨rfl, rfl⟩ := h36
    refine JJ_r1 ?_
    refine JJ_if_eq (tgt := 161) dX12_atom_15 (by decide) (fun _ => ?_) (fun c37 => absurd (by decide) c37)
    refine JJ_iload_n dX12_atom_161 rfl rfl ?_
    refine JJ_iret dX12_atom_162 rfl ?_
    exact ⟨_, _, L, rfl, rfl, (fun b k z => ((fl_n z).trans rfl)), fun _ _ _ => rfl, by rw [gM_0 htk, tok_s]; exact ⟨(up2_n (by omega)).trans up2_s, up2_s.trans hp.2.2.2.2.2.2.2.1⟩⟩
set_option maxHeartbeats 4000000 in
set_option maxRecDepth 100000 in
theorem kp_atom1 {g1 ge : PF} {ds dt : Nat} (hf : f + 1 ≤ 5) (hds : 5 ≤ ds) (hdt : dt ≤ ds) (hB : ∀ i, i < m → 0 ≤ (b i).toInt) (h1 : ∀ (i : Nat) (M : Nat → Nat → Int32) (L : Nat → Nat → Int64), PST o r m b nm f i M L → KK G sc yX12_atom cX12_atom 2 (some .int) dt 0 0 [.ref o] (n, S, M, L, P) (PPO o r m b nm f i n S P (g1 i) M L)) (h2 : ∀ (i : Nat) (M : Nat → Nat → Int32) (L : Nat → Nat → Int64), PST o r m b nm f i M L → KK G sc yX12_either cX12_either 3 (some .int) ds 0 0 [.ref o] (n, S, M, L, P) (PPO o r m b nm f i n S P (ge i) M L)) (hR : RWF o S P) (hX : HX o sc) : ∀ (i : Nat) (M : Nat → Nat → Int32) (L : Nat → Nat → Int64), PST o r m b nm (f + 1) i M L → KK G sc yX12_atom cX12_atom 2 (some .int) (ds + 1) 0 0 [.ref o] (n, S, M, L, P) (PPO o r m b nm (f + 1) i n S P (gOne b m true g1 ge i) M L) := by
  intro i M L hp
  refine KK_of2 [(0, .ref o)] (by decide +kernel) (Nat.le_of_ble_eq_true rfl) rfl ?_
  refine JJ_iconst (v := 0) dX12_atom_0 rfl ?_
  refine JJ_istore_n (lv' := [(1, .int 0), (0, .ref o)]) dX12_atom_1 rfl (by decide) rfl ?_
  refine JJ_aload_n dX12_atom_2 rfl rfl ?_
  refine JJ_bipush (v := 45) dX12_atom_3 rfl ?_
  refine JJ_callV (rest := []) hR.1 rfl rfl (kp_isSign (c := 45) hp.2.2.2.1 hp.2.2.2.2.2.2 (by decide) hR hX) (by omega) mi_X12_isSign lk_X12_199 rfl (Nat.le_of_ble_eq_true rfl) rfl rfl dX12_atom_5 ?_
  intro v1 μ2 h3
  obtain ⟨rfl, rfl⟩ := h3
  refine JJ_r1 ?_
  refine JJ_if_eq (tgt := 37) dX12_atom_8 (by decide) (fun c4 => ?_) (fun c4 => ?_)
  · skip
    refine JJ_aload_n dX12_atom_37 rfl rfl ?_
    refine JJ_bipush (v := 40) dX12_atom_38 rfl ?_
    refine JJ_callV (rest := []) hR.1 rfl rfl (kp_isSign (c := 40) hp.2.2.2.1 hp.2.2.2.2.2.2 (by decide) hR hX) (by omega) mi_X12_isSign lk_X12_199 rfl (Nat.le_of_ble_eq_true rfl) rfl rfl dX12_atom_40 ?_
    intro v5 μ6 h7
    obtain ⟨rfl, rfl⟩ := h7
    refine JJ_r1 ?_
    refine JJ_if_eq (tgt := 95) dX12_atom_43 (by decide) (fun c8 => ?_) (fun c8 => ?_)
    · skip
      refine JJ_aload_n dX12_atom_95 rfl rfl ?_
      refine JJ_geti (v := 0) (cis := [12]) (k := 29) fa_X12_157 (by decide) hR.1 rfl (hX.1 29) hp.2.2.2.1 dX12_atom_96 ?_
      refine JJ_if_ne (tgt := 123) dX12_atom_99 (by decide) (fun c9 => absurd (by decide) c9) (fun _ => ?_)
      refine JJ_aload_n dX12_atom_102 rfl rfl ?_
      refine JJ_geti (v := M o 25) (cis := [12]) (k := 25) fa_X12_140 (by decide) hR.1 rfl (hX.1 25) rfl dX12_atom_103 ?_
      refine JJ_iconst (v := 2) dX12_atom_106 rfl ?_
      refine JJ_icmp_ne (tgt := 123) dX12_atom_107 (by decide) (fun c10 => ?_) (fun c10 => ?_)
      · skip
        refine JJ_aload_n dX12_atom_123 rfl rfl ?_
        refine JJ_geti (v := 0) (cis := [12]) (k := 29) fa_X12_157 (by decide) hR.1 rfl (hX.1 29) hp.2.2.2.1 dX12_atom_124 ?_
        refine JJ_if_ne (tgt := 157) dX12_atom_127 (by decide) (fun c11 => absurd (by decide) c11) (fun _ => ?_)
        refine JJ_aload_n dX12_atom_130 rfl rfl ?_
        refine JJ_geti (v := M o 25) (cis := [12]) (k := 25) fa_X12_140 (by decide) hR.1 rfl (hX.1 25) rfl dX12_atom_131 ?_
        refine JJ_iconst (v := 1) dX12_atom_134 rfl ?_
        refine JJ_icmp_ne (tgt := 157) dX12_atom_135 (by decide) (fun c12 => ?_) (fun c12 => ?_)
        · skip
          refine JJ_aload_n dX12_atom_157 rfl rfl ?_
          refine JJ_callV (rest := []) hR.1 rfl rfl (kp_fail0 hp.2.2.2.1 hR hX) (by omega) mi_X12_fail lk_X12_171 rfl (Nat.le_of_ble_eq_true rfl) rfl rfl dX12_atom_158 ?_
          intro v13 μ14 h15
          obtain ⟨rfl, rfl⟩ := h15
          refine JJ_r0 ?_
          refine JJ_iload_n dX12_atom_161 rfl rfl ?_
          refine JJ_iret dX12_atom_162 rfl ?_
          exact ⟨_, _, L, rfl, rfl, (fun b k z => ((fl_n z).trans rfl)), fun _ _ _ => rfl, by rw [gO_no (tks_n1 hp.2.2.2.2.2.2 c10) (tks_n2 hp.2.2.2.2.2.2 c12) (b2_0.mp c4) (b2_0.mp c8), tok_s]; exact ⟨(up2_n (by omega)).trans up2_s, up2_s.trans hp.2.2.2.2.2.2.2.1⟩⟩
        · skip
          refine JJ_aload_n dX12_atom_138 rfl rfl ?_
          have h25 := c12
          have hnk := kp_name (sc := sc) (L := L) (P := P) (S := S) (n := n) (G := G) hp.1 hp.2.2.2.1 (hp.2.1.symm ▸ hp.2.2.2.2.2.2) h25 hR hX
          rw [hp.2.1] at hnk
          by_cases hz : wname b (skB b m i) (skL b m (skB b m i)) = 0
          · skip
            refine JJ_callV (rest := []) hR.1 rfl rfl (KK_mono hnk (fun v μ hv => (ite_1 hz hv : v = some (.int 0) ∧ μ = (n, S, (up2 (up2 M o 29 1) o 30 (M o 26)), L, P)))) (by omega) mi_X12_name lk_X12_213 rfl (Nat.le_of_ble_eq_true rfl) rfl rfl dX12_atom_139 ?_
            intro v16 μ17 h18
            obtain ⟨rfl, rfl⟩ := h18
            refine JJ_r1 ?_
            refine JJ_istore_n (lv' := [(1, .int 0), (0, .ref o)]) dX12_atom_142 rfl (by decide) rfl ?_
            refine JJ_aload_n dX12_atom_143 rfl rfl ?_
            refine JJ_geti (v := 1) (cis := [12]) (k := 29) fa_X12_157 (by decide) hR.1 rfl (hX.1 29) ((up2_n (by omega)).trans up2_s) dX12_atom_144 ?_
            refine JJ_if_ne (tgt := 161) dX12_atom_147 (by decide) (fun _ => ?_) (fun c19 => absurd c19 (by decide))
            refine JJ_iload_n dX12_atom_161 rfl rfl ?_
            refine JJ_iret dX12_atom_162 rfl ?_
            exact ⟨_, _, L, rfl, rfl, (fun b k z => ((fl_n z).trans rfl)), fun _ _ _ => rfl, by rw [gO_no (by rw [tks_wk hp.2.2.2.2.2.2 h25 hz]; exact wkey_12.1) (by rw [tks_wk hp.2.2.2.2.2.2 h25 hz]; exact wkey_12.2) (by rw [tks_wk hp.2.2.2.2.2.2 h25 hz]; exact wkey_ns (by decide)) (by rw [tks_wk hp.2.2.2.2.2.2 h25 hz]; exact wkey_ns (by decide)), tok_s]; exact ⟨(up2_n (by omega)).trans up2_s, up2_s.trans hp.2.2.2.2.2.2.2.1⟩⟩
          · skip
            have hwn := tks_wn hp.2.2.2.2.2.2 h25 hz
            have htk : (tok b m i).1 = 2 := by rw [hwn]
            have h24 : M o 24 = nI (tok b m i).2.2.2 := tks_ky24 hp.2.2.2.2.2.2 h25
            refine JJ_callV (rest := []) hR.1 rfl rfl (KK_mono hnk (fun v μ hv => (ite_0 hz hv : v = some (.int (M o (16 + (-1 - wname b (skB b m i) (skL b m (skB b m i))).toNatClampNeg))) ∧ μ = (n, S, M, L, P)))) (by omega) mi_X12_name lk_X12_213 rfl (Nat.le_of_ble_eq_true rfl) rfl rfl dX12_atom_139 ?_
            intro v20 μ21 h22
            obtain ⟨rfl, rfl⟩ := h22
            refine JJ_r1 ?_
            refine JJ_istore_n (lv' := [(1, .int (M o (16 + (-1 - wname b (skB b m i) (skL b m (skB b m i))).toNatClampNeg))), (0, .ref o)]) dX12_atom_142 rfl (by decide) rfl ?_
            refine JJ_aload_n dX12_atom_143 rfl rfl ?_
            refine JJ_geti (v := 0) (cis := [12]) (k := 29) fa_X12_157 (by decide) hR.1 rfl (hX.1 29) hp.2.2.2.1 dX12_atom_144 ?_
            refine JJ_if_ne (tgt := 161) dX12_atom_147 (by decide) (fun c23 => absurd (by decide) c23) (fun _ => ?_)
            refine JJ_aload_n dX12_atom_150 rfl rfl ?_
            have hte := tks_e hp.2.2.2.2.2.2 (by rw [htk]; decide)
            refine JJ_callV (rest := []) hR.1 rfl rfl (kp_nx (f := f + 1) hp.1 hp.2.1 hte.2.2 hp.2.2.2.1 hp.2.2.2.2.1 hp.2.2.2.2.2.1 hB h24 hR hX) (by omega) mi_X12_next lk_X12_174 rfl (Nat.le_of_ble_eq_true rfl) rfl rfl dX12_atom_151 ?_
            intro v24 μ25 h26
            obtain ⟨rfl, Md, Ld, rfl, hpd, hfd, hld⟩ := h26
            refine JJ_r0 ?_
            refine JJ_goto (tgt := 161) dX12_atom_154 (by decide) ?_
            refine JJ_iload_n dX12_atom_161 rfl rfl ?_
            refine JJ_iret dX12_atom_162 rfl ?_
            exact ⟨_, Md, Ld, rfl, rfl, hfd, hld, by rw [gO_nam hwn]; rw [hwn] at hpd hte; exact ⟨hp.2.2.2.2.2.1 _ (wname_lt.resolve_right hz), hte.2.1, hpd⟩⟩
      · skip
        have hnu := tks_num hp.2.2.2.2.2.2 c10
        have htk : (tok b m i).1 = 1 := by rw [hnu.1]
        have h24 := hnu.2
        refine JJ_aload_n dX12_atom_110 rfl rfl ?_
        refine JJ_getl (v := L o 27) (cis := [12]) (k := 27) fa_X12_151 (by decide) hR.1 rfl (hX.1 27) rfl dX12_atom_111 ?_
        refine JJ_l2i dX12_atom_114 ?_
        refine JJ_istore_n (lv' := [(1, .int ((L o 27).toInt32)), (0, .ref o)]) dX12_atom_115 rfl (by decide) rfl ?_
        refine JJ_aload_n dX12_atom_116 rfl rfl ?_
        have hte := tks_e hp.2.2.2.2.2.2 (by rw [htk]; decide)
        refine JJ_callV (rest := []) hR.1 rfl rfl (kp_nx (f := f + 1) hp.1 hp.2.1 hte.2.2 hp.2.2.2.1 hp.2.2.2.2.1 hp.2.2.2.2.2.1 hB h24 hR hX) (by omega) mi_X12_next lk_X12_174 rfl (Nat.le_of_ble_eq_true rfl) rfl rfl dX12_atom_117 ?_
        intro v27 μ28 h29
        obtain ⟨rfl, Md, Ld, rfl, hpd, hfd, hld⟩ := h29
        refine JJ_r0 ?_
        refine JJ_goto (tgt := 161) dX12_atom_120 (by decide) ?_
        refine JJ_iload_n dX12_atom_161 rfl rfl ?_
        refine JJ_iret dX12_atom_162 rfl ?_
        exact ⟨_, Md, Ld, rfl, rfl, hfd, hld, by rw [gO_num hnu.1]; rw [hnu.1] at hpd hte; exact ⟨rfl, hte.2.1, hpd⟩⟩
    · skip
      refine JJ_aload_n dX12_atom_46 rfl rfl ?_
      have htk := b2_n.mp c8
      have he := tks_e hp.2.2.2.2.2.2 (by rw [htk]; decide)
      refine JJ_callV (rest := []) hR.1 rfl rfl (kp_opens hf hp hB he (tks_sg24 hp.2.2.2.2.2.2 (by decide) htk).1 hR hX) (by omega) mi_X12_opens lk_X12_202 rfl (Nat.le_of_ble_eq_true rfl) rfl rfl dX12_atom_47 ?_
      intro v30 μ31 h32
      obtain ⟨rfl, Mc, Lc, rfl, hpc, hfc, hlc⟩ := h32
      refine JJ_r1 ?_
      refine JJ_if_eq (tgt := 161) dX12_atom_50 (by decide) (fun c33 => absurd c33 (by decide)) (fun _ => ?_)
      refine JJ_aload_n dX12_atom_53 rfl rfl ?_
      refine JJ_callV (rest := []) hR.1 rfl rfl (h2 _ Mc Lc hpc) (by omega) mi_X12_either lk_X12_210 rfl (Nat.le_of_ble_eq_true rfl) rfl rfl dX12_atom_54 ?_
      intro v34 μ35 h36
      obtain ⟨x, Ma, La, rfl, rfl, hfa, hla, hma⟩ := h36
      refine JJ_r1 ?_
      rcases hg1 : ge (tok b m i).2.2.2 with q | ⟨c, d, j⟩
      · skip
        rw [hg1] at hma
        obtain ⟨b29, b30⟩ : Ma o 29 = 1 ∧ Ma o 30 = nI q := hma
        refine JJ_istore_n (lv' := [(1, .int x), (0, .ref o)]) dX12_atom_57 rfl (by decide) rfl ?_
        refine JJ_aload_n dX12_atom_58 rfl rfl ?_
        refine JJ_bipush (v := 41) dX12_atom_59 rfl ?_
        refine JJ_callV (rest := []) hR.1 rfl rfl (kp_isSign1 b29 hR hX) (by omega) mi_X12_isSign lk_X12_199 rfl (Nat.le_of_ble_eq_true rfl) rfl rfl dX12_atom_61 ?_
        intro v37 μ38 h39
        obtain ⟨rfl, rfl⟩ := h39
        refine JJ_r1 ?_
        refine JJ_if_ne (tgt := 71) dX12_atom_64 (by decide) (fun c40 => absurd (by decide) c40) (fun _ => ?_)
        refine JJ_aload_n dX12_atom_67 rfl rfl ?_
        refine JJ_callV (rest := []) hR.1 rfl rfl (kp_fail1 b29 hR hX) (by omega) mi_X12_fail lk_X12_171 rfl (Nat.le_of_ble_eq_true rfl) rfl rfl dX12_atom_68 ?_
        intro v41 μ42 h43
        obtain ⟨rfl, rfl⟩ := h43
        refine JJ_r0 ?_
        refine JJ_aload_n dX12_atom_71 rfl rfl ?_
        refine JJ_dup dX12_atom_72 rfl ?_
        refine JJ_geti (v := Ma o 28) (cis := [12]) (k := 28) fa_X12_168 (by decide) hR.1 rfl (hX.1 28) rfl dX12_atom_73 ?_
        refine JJ_iconst (v := 1) dX12_atom_76 rfl ?_
        refine JJ_isub dX12_atom_77 ?_
        refine JJ_puti (cis := [12]) (k := 28) fa_X12_168 (by decide) hR.1 rfl (fun r hr => by cases hr; exact ⟨rfl, by decide +kernel⟩) dX12_atom_78 (fun M44 hM45 => ?_)
        refine JJ_aload_n dX12_atom_81 rfl rfl ?_
        refine JJ_geti (v := 1) (cis := [12]) (k := 29) fa_X12_157 (by decide) hR.1 rfl (hX.1 29) (rd_n hM45 (by omega) b29) dX12_atom_82 ?_
        refine JJ_if_ne (tgt := 161) dX12_atom_85 (by decide) (fun _ => ?_) (fun c46 => absurd c46 (by decide))
        refine JJ_iload_n dX12_atom_161 rfl rfl ?_
        refine JJ_iret dX12_atom_162 rfl ?_
        exact ⟨_, _, La, rfl, rfl, (fun b k z => (rd_n hM45 (fun e => z (by unfold PD; omega)) ((fun b k z => (hfa b k z).trans (hfc b k z)) b k z))), (fun b k z => (hla b k z).trans (hlc b k z)), by rw [gP_1 htk hg1]; exact ⟨(rd_n hM45 (by omega) b29), (rd_n hM45 (by omega) rfl).trans b30⟩⟩
      · skip
        rw [hg1] at hma
        obtain ⟨hxd, hij, hpa⟩ : x = d nm ∧ (tok b m i).2.2.2 < j ∧ PST o r m b nm f j Ma La := hma
        refine JJ_istore_n (lv' := [(1, .int x), (0, .ref o)]) dX12_atom_57 rfl (by decide) rfl ?_
        refine JJ_aload_n dX12_atom_58 rfl rfl ?_
        refine JJ_bipush (v := 41) dX12_atom_59 rfl ?_
        refine JJ_callV (rest := []) hR.1 rfl rfl (kp_isSign (c := 41) hpa.2.2.2.1 hpa.2.2.2.2.2.2 (by decide) hR hX) (by omega) mi_X12_isSign lk_X12_199 rfl (Nat.le_of_ble_eq_true rfl) rfl rfl dX12_atom_61 ?_
        intro v47 μ48 h49
        obtain ⟨rfl, rfl⟩ := h49
        refine JJ_r1 ?_
        refine JJ_if_ne (tgt := 71) dX12_atom_64 (by decide) (fun c50 => ?_) (fun c50 => ?_)
        · skip
          have htj := b2_n.mp c50
          refine JJ_aload_n dX12_atom_71 rfl rfl ?_
          refine JJ_dup dX12_atom_72 rfl ?_
          refine JJ_geti (v := nI (5 - f)) (cis := [12]) (k := 28) fa_X12_168 (by decide) hR.1 rfl (hX.1 28) hpa.2.2.2.2.1 dX12_atom_73 ?_
          refine JJ_iconst (v := 1) dX12_atom_76 rfl ?_
          refine JJ_isub dX12_atom_77 ?_
          refine JJ_eqi (x2 := nI (5 - (f + 1))) (nI_dn hf) ?_
          refine JJ_puti (cis := [12]) (k := 28) fa_X12_168 (by decide) hR.1 rfl (fun r hr => by cases hr; exact ⟨rfl, by decide +kernel⟩) dX12_atom_78 (fun M51 hM52 => ?_)
          refine JJ_aload_n dX12_atom_81 rfl rfl ?_
          refine JJ_geti (v := 0) (cis := [12]) (k := 29) fa_X12_157 (by decide) hR.1 rfl (hX.1 29) (rd_n hM52 (by omega) hpa.2.2.2.1) dX12_atom_82 ?_
          refine JJ_if_ne (tgt := 161) dX12_atom_85 (by decide) (fun c53 => absurd (by decide) c53) (fun _ => ?_)
          refine JJ_aload_n dX12_atom_88 rfl rfl ?_
          have hte := tks_e hpa.2.2.2.2.2.2 (by rw [htj]; decide)
          have hpu := pst_up hpa hM52
          refine JJ_callV (rest := []) hR.1 rfl rfl (kp_nx (f := f + 1) hpu.1 hpu.2.1 hte.2.2 hpu.2.2.2.1 hpu.2.2.2.2.1 hpu.2.2.2.2.2.1 hB ((rd_n hM52 (by omega) rfl).trans (tks_sg24 hpa.2.2.2.2.2.2 (by decide) htj).1) hR hX) (by omega) mi_X12_next lk_X12_174 rfl (Nat.le_of_ble_eq_true rfl) rfl rfl dX12_atom_89 ?_
          intro v54 μ55 h56
          obtain ⟨rfl, Md, Ld, rfl, hpd, hfd, hld⟩ := h56
          refine JJ_r0 ?_
          refine JJ_goto (tgt := 161) dX12_atom_92 (by decide) ?_
          refine JJ_iload_n dX12_atom_161 rfl rfl ?_
          refine JJ_iret dX12_atom_162 rfl ?_
          exact ⟨_, Md, Ld, rfl, rfl, fun b k z => (hfd b k z).trans ((fun b k z => (rd_n hM52 (fun e => z (by unfold PD; omega)) ((fun b k z => (hfa b k z).trans (hfc b k z)) b k z))) b k z), fun b k z => (hld b k z).trans ((fun b k z => (hla b k z).trans (hlc b k z)) b k z), by rw [gP_3 htk hg1 htj]; exact ⟨hxd, by omega, hpd⟩⟩
        · skip
          refine JJ_aload_n dX12_atom_67 rfl rfl ?_
          refine JJ_callV (rest := []) hR.1 rfl rfl (kp_fail0 hpa.2.2.2.1 hR hX) (by omega) mi_X12_fail lk_X12_171 rfl (Nat.le_of_ble_eq_true rfl) rfl rfl dX12_atom_68 ?_
          intro v57 μ58 h59
          obtain ⟨rfl, rfl⟩ := h59
          refine JJ_r0 ?_
          refine JJ_aload_n dX12_atom_71 rfl rfl ?_
          refine JJ_dup dX12_atom_72 rfl ?_
          refine JJ_geti (v := (up2 (up2 Ma o 29 1) o 30 (Ma o 26)) o 28) (cis := [12]) (k := 28) fa_X12_168 (by decide) hR.1 rfl (hX.1 28) rfl dX12_atom_73 ?_
          refine JJ_iconst (v := 1) dX12_atom_76 rfl ?_
          refine JJ_isub dX12_atom_77 ?_
          refine JJ_puti (cis := [12]) (k := 28) fa_X12_168 (by decide) hR.1 rfl (fun r hr => by cases hr; exact ⟨rfl, by decide +kernel⟩) dX12_atom_78 (fun M60 hM61 => ?_)
          refine JJ_aload_n dX12_atom_81 rfl rfl ?_
          refine JJ_geti (v := 1) (cis := [12]) (k := 29) fa_X12_157 (by decide) hR.1 rfl (hX.1 29) (rd_n hM61 (by omega) ((up2_n (by omega)).trans up2_s)) dX12_atom_82 ?_
          refine JJ_if_ne (tgt := 161) dX12_atom_85 (by decide) (fun _ => ?_) (fun c62 => absurd c62 (by decide))
          refine JJ_iload_n dX12_atom_161 rfl rfl ?_
          refine JJ_iret dX12_atom_162 rfl ?_
          exact ⟨_, _, La, rfl, rfl, (fun b k z => (rd_n hM61 (fun e => z (by unfold PD; omega)) ((fl_n z).trans ((fun b k z => (hfa b k z).trans (hfc b k z)) b k z)))), (fun b k z => (hla b k z).trans (hlc b k z)), by rw [gP_2 htk hg1 (b2_0.mp c50), tok_s]; exact ⟨rd_n hM61 (by omega) ((up2_n (by omega)).trans up2_s), rd_n hM61 (by omega) (up2_s.trans hpa.2.2.2.2.2.2.2.1)⟩⟩
  · skip
    refine JJ_aload_n dX12_atom_11 rfl rfl ?_
    have htk := b2_n.mp c4
    have he := tks_e hp.2.2.2.2.2.2 (by rw [htk]; decide)
    refine JJ_callV (rest := []) hR.1 rfl rfl (kp_opens hf hp hB he (tks_sg24 hp.2.2.2.2.2.2 (by decide) htk).1 hR hX) (by omega) mi_X12_opens lk_X12_202 rfl (Nat.le_of_ble_eq_true rfl) rfl rfl dX12_atom_12 ?_
    intro v63 μ64 h65
    obtain ⟨rfl, Mc, Lc, rfl, hpc, hfc, hlc⟩ := h65
    refine JJ_r1 ?_
    refine JJ_if_eq (tgt := 161) dX12_atom_15 (by decide) (fun c66 => absurd c66 (by decide)) (fun _ => ?_)
    refine JJ_aload_n dX12_atom_18 rfl rfl ?_
    refine JJ_callV (rest := []) hR.1 rfl rfl (h1 _ Mc Lc hpc) (by omega) mi_X12_atom lk_X12_206 rfl (Nat.le_of_ble_eq_true rfl) rfl rfl dX12_atom_19 ?_
    intro v67 μ68 h69
    obtain ⟨x, Ma, La, rfl, rfl, hfa, hla, hma⟩ := h69
    refine JJ_r1 ?_
    rcases hg1 : g1 (tok b m i).2.2.2 with q | ⟨c, d, j⟩
    · skip
      rw [hg1] at hma
      obtain ⟨b29, b30⟩ : Ma o 29 = 1 ∧ Ma o 30 = nI q := hma
      refine JJ_ineg dX12_atom_22 ?_
      refine JJ_istore_n (lv' := [(1, .int (-x)), (0, .ref o)]) dX12_atom_23 rfl (by decide) rfl ?_
      refine JJ_aload_n dX12_atom_24 rfl rfl ?_
      refine JJ_dup dX12_atom_25 rfl ?_
      refine JJ_geti (v := Ma o 28) (cis := [12]) (k := 28) fa_X12_168 (by decide) hR.1 rfl (hX.1 28) rfl dX12_atom_26 ?_
      refine JJ_iconst (v := 1) dX12_atom_29 rfl ?_
      refine JJ_isub dX12_atom_30 ?_
      refine JJ_puti (cis := [12]) (k := 28) fa_X12_168 (by decide) hR.1 rfl (fun r hr => by cases hr; exact ⟨rfl, by decide +kernel⟩) dX12_atom_31 (fun M70 hM71 => ?_)
      refine JJ_goto (tgt := 161) dX12_atom_34 (by decide) ?_
      refine JJ_iload_n dX12_atom_161 rfl rfl ?_
      refine JJ_iret dX12_atom_162 rfl ?_
      exact ⟨_, _, La, rfl, rfl, (fun b k z => (rd_n hM71 (fun e => z (by unfold PD; omega)) ((fun b k z => (hfa b k z).trans (hfc b k z)) b k z))), (fun b k z => (hla b k z).trans (hlc b k z)), by rw [gM_1 htk hg1]; exact ⟨(rd_n hM71 (by omega) b29), (rd_n hM71 (by omega) rfl).trans b30⟩⟩
    · skip
      rw [hg1] at hma
      obtain ⟨hxd, hij, hpa⟩ : x = d nm ∧ (tok b m i).2.2.2 < j ∧ PST o r m b nm f j Ma La := hma
      refine JJ_ineg dX12_atom_22 ?_
      refine JJ_istore_n (lv' := [(1, .int (-x)), (0, .ref o)]) dX12_atom_23 rfl (by decide) rfl ?_
      refine JJ_aload_n dX12_atom_24 rfl rfl ?_
      refine JJ_dup dX12_atom_25 rfl ?_
      refine JJ_geti (v := nI (5 - f)) (cis := [12]) (k := 28) fa_X12_168 (by decide) hR.1 rfl (hX.1 28) hpa.2.2.2.2.1 dX12_atom_26 ?_
      refine JJ_iconst (v := 1) dX12_atom_29 rfl ?_
      refine JJ_isub dX12_atom_30 ?_
      refine JJ_eqi (x2 := nI (5 - (f + 1))) (nI_dn hf) ?_
      refine JJ_puti (cis := [12]) (k := 28) fa_X12_168 (by decide) hR.1 rfl (fun r hr => by cases hr; exact ⟨rfl, by decide +kernel⟩) dX12_atom_31 (fun M72 hM73 => ?_)
      refine JJ_goto (tgt := 161) dX12_atom_34 (by decide) ?_
      refine JJ_iload_n dX12_atom_161 rfl rfl ?_
      refine JJ_iret dX12_atom_162 rfl ?_
      exact ⟨_, _, La, rfl, rfl, (fun b k z => (rd_n hM73 (fun e => z (by unfold PD; omega)) ((fun b k z => (hfa b k z).trans (hfc b k z)) b k z))), (fun b k z => (hla b k z).trans (hlc b k z)), by rw [gM_2 htk hg1]; exact ⟨by rw [hxd], by omega, pst_up hpa hM73⟩⟩
set_option maxHeartbeats 4000000 in
set_option maxRecDepth 100000 in
theorem kp_not0 {one : PF} {ds : Nat} (hds : 5 ≤ ds) (hB : ∀ i, i < m → 0 ≤ (b i).toInt) (ha : ∀ (i : Nat) (M : Nat → Nat → Int32) (L : Nat → Nat → Int64), PST o r m b nm 0 i M L → KK G sc yX12_added cX12_added 4 (some .int) ds 0 0 [.ref o] (n, S, M, L, P) (PPO o r m b nm 0 i n S P (gSum b m one i) M L)) (hR : RWF o S P) (hX : HX o sc) : ∀ (i : Nat) (M : Nat → Nat → Int32) (L : Nat → Nat → Int64), PST o r m b nm 0 i M L → KK G sc yX12_not cX12_not 4 (some .int) (ds + 1) 0 0 [.ref o] (n, S, M, L, P) (PPO o r m b nm 0 i n S P (gNot b m false pNo one i) M L) := by
  intro i M L hp
  refine KK_of2 [(0, .ref o)] (by decide +kernel) (Nat.le_of_ble_eq_true rfl) rfl ?_
  refine JJ_aload_n dX12_not_0 rfl rfl ?_
  refine JJ_bipush (v := 110) dX12_not_1 rfl ?_
  refine JJ_bipush (v := 111) dX12_not_3 rfl ?_
  refine JJ_bipush (v := 116) dX12_not_5 rfl ?_
  refine JJ_iconst (v := 0) dX12_not_7 rfl ?_
  refine JJ_iconst (v := 0) dX12_not_8 rfl ?_
  refine JJ_iconst (v := 0) dX12_not_9 rfl ?_
  refine JJ_iconst (v := 0) dX12_not_10 rfl ?_
  refine JJ_iconst (v := 0) dX12_not_11 rfl ?_
  refine JJ_callV (rest := []) hR.1 rfl rfl (kp_not (m := m) (i := i) hp.1 hp.2.2.2.1 (hp.2.1.symm ▸ hp.2.2.2.2.2.2) hR hX) (by omega) mi_X12_isWord lk_X12_177 rfl (Nat.le_of_ble_eq_true rfl) rfl rfl dX12_not_12 ?_
  intro v1 μ2 h3
  obtain ⟨rfl, rfl⟩ := h3
  refine JJ_r1 ?_
  refine JJ_eqi (x2 := bw ((tok b m i).1 = 8)) (by rw [hp.2.1]) ?_
  refine JJ_if_eq (tgt := 52) dX12_not_15 (by decide) (fun c4 => ?_) (fun c4 => ?_)
  · skip
    refine JJ_aload_n dX12_not_52 rfl rfl ?_
    have hnt := bw_0.mp c4
    refine JJ_callV (rest := []) hR.1 rfl rfl (ha i M L hp) (by omega) mi_X12_added lk_X12_224 rfl (Nat.le_of_ble_eq_true rfl) rfl rfl dX12_not_53 ?_
    intro v5 μ6 h7
    obtain ⟨x, Ma, La, rfl, rfl, hfa, hla, hma⟩ := h7
    refine JJ_r1 ?_
    rcases hg1 : gSum b m one i with q | ⟨c, d, j⟩
    · skip
      rw [hg1] at hma
      obtain ⟨b29, b30⟩ : Ma o 29 = 1 ∧ Ma o 30 = nI q := hma
      refine JJ_istore_n (lv' := [(1, .int x), (0, .ref o)]) dX12_not_56 rfl (by decide) rfl ?_
      refine JJ_aload_n dX12_not_57 rfl rfl ?_
      refine JJ_bipush (v := 60) dX12_not_58 rfl ?_
      refine JJ_callV (rest := []) hR.1 rfl rfl (kp_isSign1 b29 hR hX) (by omega) mi_X12_isSign lk_X12_199 rfl (Nat.le_of_ble_eq_true rfl) rfl rfl dX12_not_60 ?_
      intro v8 μ9 h10
      obtain ⟨rfl, rfl⟩ := h10
      refine JJ_r1 ?_
      refine JJ_if_ne (tgt := 77) dX12_not_63 (by decide) (fun c11 => absurd (by decide) c11) (fun _ => ?_)
      refine JJ_aload_n dX12_not_66 rfl rfl ?_
      refine JJ_bipush (v := 61) dX12_not_67 rfl ?_
      refine JJ_callV (rest := []) hR.1 rfl rfl (kp_isSign1 b29 hR hX) (by omega) mi_X12_isSign lk_X12_199 rfl (Nat.le_of_ble_eq_true rfl) rfl rfl dX12_not_69 ?_
      intro v12 μ13 h14
      obtain ⟨rfl, rfl⟩ := h14
      refine JJ_r1 ?_
      refine JJ_if_ne (tgt := 77) dX12_not_72 (by decide) (fun c15 => absurd (by decide) c15) (fun _ => ?_)
      refine JJ_iload_n dX12_not_75 rfl rfl ?_
      refine JJ_iret dX12_not_76 rfl ?_
      exact ⟨_, Ma, La, rfl, rfl, hfa, hla, by rw [gS_0 hnt hg1]; exact ⟨b29, b30⟩⟩
    · skip
      rw [hg1] at hma
      obtain ⟨hxd, hij, hpa⟩ : x = d nm ∧ i < j ∧ PST o r m b nm 0 j Ma La := hma
      refine JJ_istore_n (lv' := [(1, .int x), (0, .ref o)]) dX12_not_56 rfl (by decide) rfl ?_
      refine JJ_aload_n dX12_not_57 rfl rfl ?_
      refine JJ_bipush (v := 60) dX12_not_58 rfl ?_
      refine JJ_callV (rest := []) hR.1 rfl rfl (kp_isSign (c := 60) hpa.2.2.2.1 hpa.2.2.2.2.2.2 (by decide) hR hX) (by omega) mi_X12_isSign lk_X12_199 rfl (Nat.le_of_ble_eq_true rfl) rfl rfl dX12_not_60 ?_
      intro v16 μ17 h18
      obtain ⟨rfl, rfl⟩ := h18
      refine JJ_r1 ?_
      refine JJ_if_ne (tgt := 77) dX12_not_63 (by decide) (fun c19 => ?_) (fun c19 => ?_)
      · skip
        have htj : (tok b m j).1 = 60 := b2_n.mp c19
        have hoj : oCmp (tok b m j).1 = some (-11, fun x y => b2 (x < y)) := if_pos htj
        refine JJ_aload_n dX12_not_77 rfl rfl ?_
        refine JJ_getl (v := (60 : Int32).toInt64) (cis := [12]) (k := 27) fa_X12_151 (by decide) hR.1 rfl (hX.1 27) (tks_sg24 hpa.2.2.2.2.2.2 (by decide) htj).2 dX12_not_78 ?_
        refine JJ_ldc2 (v := 60) dX12_not_81 tb_1200 ?_
        refine JJ_lcmp dX12_not_84 ?_
        refine JJ_if_ne (tgt := 92) dX12_not_85 (by decide) (fun c20 => absurd (by decide) c20) (fun _ => ?_)
        refine JJ_iconst (v := 1) dX12_not_88 rfl ?_
        refine JJ_goto (tgt := 93) dX12_not_89 (by decide) ?_
        refine JJ_istore_n (lv' := [(2, .int 1), (1, .int x), (0, .ref o)]) dX12_not_93 rfl (by decide) rfl ?_
        refine JJ_aload_n dX12_not_94 rfl rfl ?_
        have hte := tks_e hpa.2.2.2.2.2.2 (by rw [htj]; decide)
        refine JJ_callV (rest := []) hR.1 rfl rfl (kp_nx (f := 0) hpa.1 hpa.2.1 hte.2.2 hpa.2.2.2.1 hpa.2.2.2.2.1 hpa.2.2.2.2.2.1 hB (tks_sg24 hpa.2.2.2.2.2.2 (by decide) htj).1 hR hX) (by omega) mi_X12_next lk_X12_174 rfl (Nat.le_of_ble_eq_true rfl) rfl rfl dX12_not_95 ?_
        intro v21 μ22 h23
        obtain ⟨rfl, Mc, Lc, rfl, hpc, hfc, hlc⟩ := h23
        refine JJ_r0 ?_
        refine JJ_aload_n dX12_not_98 rfl rfl ?_
        refine JJ_callV (rest := []) hR.1 rfl rfl (ha _ Mc Lc hpc) (by omega) mi_X12_added lk_X12_224 rfl (Nat.le_of_ble_eq_true rfl) rfl rfl dX12_not_99 ?_
        intro v24 μ25 h26
        obtain ⟨y, Md, Ld, rfl, rfl, hfd, hld, hmd⟩ := h26
        refine JJ_r1 ?_
        rcases hg2 : gSum b m one (tok b m j).2.2.2 with q | ⟨c2, d2, j2⟩
        · skip
          rw [hg2] at hmd
          obtain ⟨b29, b30⟩ : Md o 29 = 1 ∧ Md o 30 = nI q := hmd
          refine JJ_istore_n (lv' := [(3, .int y), (2, .int 1), (1, .int x), (0, .ref o)]) dX12_not_102 rfl (by decide) rfl ?_
          refine JJ_iload_n dX12_not_103 rfl rfl ?_
          refine JJ_if_eq (tgt := 115) dX12_not_104 (by decide) (fun c27 => absurd c27 (by decide)) (fun _ => ?_)
          refine JJ_iload_n dX12_not_107 rfl rfl ?_
          refine JJ_iload_n dX12_not_108 rfl rfl ?_
          refine JJ_icmp_ge (tgt := 124) dX12_not_109 (by decide) (fun c28 => ?_) (fun c28 => ?_)
          · skip
            refine JJ_iconst (v := 0) dX12_not_124 rfl ?_
            refine JJ_iret dX12_not_125 rfl ?_
            exact ⟨_, Md, Ld, rfl, rfl, (fun b k z => (hfd b k z).trans ((hfc b k z).trans (hfa b k z))), (fun b k z => (hld b k z).trans ((hlc b k z).trans (hla b k z))), by rw [gS_2 hnt hg1 hoj hg2]; exact ⟨b29, b30⟩⟩
          · skip
            refine JJ_goto (tgt := 120) dX12_not_112 (by decide) ?_
            refine JJ_iconst (v := 1) dX12_not_120 rfl ?_
            refine JJ_goto (tgt := 125) dX12_not_121 (by decide) ?_
            refine JJ_iret dX12_not_125 rfl ?_
            exact ⟨_, Md, Ld, rfl, rfl, (fun b k z => (hfd b k z).trans ((hfc b k z).trans (hfa b k z))), (fun b k z => (hld b k z).trans ((hlc b k z).trans (hla b k z))), by rw [gS_2 hnt hg1 hoj hg2]; exact ⟨b29, b30⟩⟩
        · skip
          rw [hg2] at hmd
          obtain ⟨hyd, hjj, hpd⟩ : y = d2 nm ∧ (tok b m j).2.2.2 < j2 ∧ PST o r m b nm 0 j2 Md Ld := hmd
          refine JJ_istore_n (lv' := [(3, .int y), (2, .int 1), (1, .int x), (0, .ref o)]) dX12_not_102 rfl (by decide) rfl ?_
          refine JJ_iload_n dX12_not_103 rfl rfl ?_
          refine JJ_if_eq (tgt := 115) dX12_not_104 (by decide) (fun c29 => absurd c29 (by decide)) (fun _ => ?_)
          refine JJ_iload_n dX12_not_107 rfl rfl ?_
          refine JJ_iload_n dX12_not_108 rfl rfl ?_
          refine JJ_icmp_ge (tgt := 124) dX12_not_109 (by decide) (fun c30 => ?_) (fun c30 => ?_)
          · skip
            refine JJ_iconst (v := 0) dX12_not_124 rfl ?_
            refine JJ_iret dX12_not_125 rfl ?_
            exact ⟨_, Md, Ld, rfl, rfl, (fun b k z => (hfd b k z).trans ((hfc b k z).trans (hfa b k z))), (fun b k z => (hld b k z).trans ((hlc b k z).trans (hla b k z))), by rw [gS_3 hnt hg1 hoj hg2]; exact ⟨by show (0 : Int32) = b2 (d nm < d2 nm); rw [← hxd, ← hyd]; exact (b2_f (Int32.not_lt.mpr c30)).symm, by omega, hpd⟩⟩
          · skip
            refine JJ_goto (tgt := 120) dX12_not_112 (by decide) ?_
            refine JJ_iconst (v := 1) dX12_not_120 rfl ?_
            refine JJ_goto (tgt := 125) dX12_not_121 (by decide) ?_
            refine JJ_iret dX12_not_125 rfl ?_
            exact ⟨_, Md, Ld, rfl, rfl, (fun b k z => (hfd b k z).trans ((hfc b k z).trans (hfa b k z))), (fun b k z => (hld b k z).trans ((hlc b k z).trans (hla b k z))), by rw [gS_3 hnt hg1 hoj hg2]; exact ⟨by show (1 : Int32) = b2 (d nm < d2 nm); rw [← hxd, ← hyd]; exact (b2_t (Int32.not_le.mp c30)).symm, by omega, hpd⟩⟩
      · skip
        refine JJ_aload_n dX12_not_66 rfl rfl ?_
        refine JJ_bipush (v := 61) dX12_not_67 rfl ?_
        refine JJ_callV (rest := []) hR.1 rfl rfl (kp_isSign (c := 61) hpa.2.2.2.1 hpa.2.2.2.2.2.2 (by decide) hR hX) (by omega) mi_X12_isSign lk_X12_199 rfl (Nat.le_of_ble_eq_true rfl) rfl rfl dX12_not_69 ?_
        intro v31 μ32 h33
        obtain ⟨rfl, rfl⟩ := h33
        refine JJ_r1 ?_
        refine JJ_if_ne (tgt := 77) dX12_not_72 (by decide) (fun c34 => ?_) (fun c34 => ?_)
        · skip
          have htj : (tok b m j).1 = 61 := b2_n.mp c34
          have hoj : oCmp (tok b m j).1 = some (-12, fun x y => b2 (x = y)) := (if_neg (b2_0.mp c19)).trans (if_pos htj)
          refine JJ_aload_n dX12_not_77 rfl rfl ?_
          refine JJ_getl (v := (61 : Int32).toInt64) (cis := [12]) (k := 27) fa_X12_151 (by decide) hR.1 rfl (hX.1 27) (tks_sg24 hpa.2.2.2.2.2.2 (by decide) htj).2 dX12_not_78 ?_
          refine JJ_ldc2 (v := 60) dX12_not_81 tb_1200 ?_
          refine JJ_lcmp dX12_not_84 ?_
          refine JJ_if_ne (tgt := 92) dX12_not_85 (by decide) (fun _ => ?_) (fun c35 => absurd c35 (by decide))
          refine JJ_iconst (v := 0) dX12_not_92 rfl ?_
          refine JJ_istore_n (lv' := [(2, .int 0), (1, .int x), (0, .ref o)]) dX12_not_93 rfl (by decide) rfl ?_
          refine JJ_aload_n dX12_not_94 rfl rfl ?_
          have hte := tks_e hpa.2.2.2.2.2.2 (by rw [htj]; decide)
          refine JJ_callV (rest := []) hR.1 rfl rfl (kp_nx (f := 0) hpa.1 hpa.2.1 hte.2.2 hpa.2.2.2.1 hpa.2.2.2.2.1 hpa.2.2.2.2.2.1 hB (tks_sg24 hpa.2.2.2.2.2.2 (by decide) htj).1 hR hX) (by omega) mi_X12_next lk_X12_174 rfl (Nat.le_of_ble_eq_true rfl) rfl rfl dX12_not_95 ?_
          intro v36 μ37 h38
          obtain ⟨rfl, Mc, Lc, rfl, hpc, hfc, hlc⟩ := h38
          refine JJ_r0 ?_
          refine JJ_aload_n dX12_not_98 rfl rfl ?_
          refine JJ_callV (rest := []) hR.1 rfl rfl (ha _ Mc Lc hpc) (by omega) mi_X12_added lk_X12_224 rfl (Nat.le_of_ble_eq_true rfl) rfl rfl dX12_not_99 ?_
          intro v39 μ40 h41
          obtain ⟨y, Md, Ld, rfl, rfl, hfd, hld, hmd⟩ := h41
          refine JJ_r1 ?_
          rcases hg2 : gSum b m one (tok b m j).2.2.2 with q | ⟨c2, d2, j2⟩
          · skip
            rw [hg2] at hmd
            obtain ⟨b29, b30⟩ : Md o 29 = 1 ∧ Md o 30 = nI q := hmd
            refine JJ_istore_n (lv' := [(3, .int y), (2, .int 0), (1, .int x), (0, .ref o)]) dX12_not_102 rfl (by decide) rfl ?_
            refine JJ_iload_n dX12_not_103 rfl rfl ?_
            refine JJ_if_eq (tgt := 115) dX12_not_104 (by decide) (fun _ => ?_) (fun c42 => absurd (by decide) c42)
            refine JJ_iload_n dX12_not_115 rfl rfl ?_
            refine JJ_iload_n dX12_not_116 rfl rfl ?_
            refine JJ_icmp_ne (tgt := 124) dX12_not_117 (by decide) (fun c43 => ?_) (fun c43 => ?_)
            · skip
              refine JJ_iconst (v := 0) dX12_not_124 rfl ?_
              refine JJ_iret dX12_not_125 rfl ?_
              exact ⟨_, Md, Ld, rfl, rfl, (fun b k z => (hfd b k z).trans ((hfc b k z).trans (hfa b k z))), (fun b k z => (hld b k z).trans ((hlc b k z).trans (hla b k z))), by rw [gS_2 hnt hg1 hoj hg2]; exact ⟨b29, b30⟩⟩
            · skip
              refine JJ_iconst (v := 1) dX12_not_120 rfl ?_
              refine JJ_goto (tgt := 125) dX12_not_121 (by decide) ?_
              refine JJ_iret dX12_not_125 rfl ?_
              exact ⟨_, Md, Ld, rfl, rfl, (fun b k z => (hfd b k z).trans ((hfc b k z).trans (hfa b k z))), (fun b k z => (hld b k z).trans ((hlc b k z).trans (hla b k z))), by rw [gS_2 hnt hg1 hoj hg2]; exact ⟨b29, b30⟩⟩
          · skip
            rw [hg2] at hmd
            obtain ⟨hyd, hjj, hpd⟩ : y = d2 nm ∧ (tok b m j).2.2.2 < j2 ∧ PST o r m b nm 0 j2 Md Ld := hmd
            refine JJ_istore_n (lv' := [(3, .int y), (2, .int 0), (1, .int x), (0, .ref o)]) dX12_not_102 rfl (by decide) rfl ?_
            refine JJ_iload_n dX12_not_103 rfl rfl ?_
            refine JJ_if_eq (tgt := 115) dX12_not_104 (by decide) (fun _ => ?_) (fun c44 => absurd (by decide) c44)
            refine JJ_iload_n dX12_not_115 rfl rfl ?_
            refine JJ_iload_n dX12_not_116 rfl rfl ?_
            refine JJ_icmp_ne (tgt := 124) dX12_not_117 (by decide) (fun c45 => ?_) (fun c45 => ?_)
            · skip
              refine JJ_iconst (v := 0) dX12_not_124 rfl ?_
              refine JJ_iret dX12_not_125 rfl ?_
              exact ⟨_, Md, Ld, rfl, rfl, (fun b k z => (hfd b k z).trans ((hfc b k z).trans (hfa b k z))), (fun b k z => (hld b k z).trans ((hlc b k z).trans (hla b k z))), by rw [gS_3 hnt hg1 hoj hg2]; exact ⟨by show (0 : Int32) = b2 (d nm = d2 nm); rw [← hxd, ← hyd]; exact (b2_f c45).symm, by omega, hpd⟩⟩
            · skip
              refine JJ_iconst (v := 1) dX12_not_120 rfl ?_
              refine JJ_goto (tgt := 125) dX12_not_121 (by decide) ?_
              refine JJ_iret dX12_not_125 rfl ?_
              exact ⟨_, Md, Ld, rfl, rfl, (fun b k z => (hfd b k z).trans ((hfc b k z).trans (hfa b k z))), (fun b k z => (hld b k z).trans ((hlc b k z).trans (hla b k z))), by rw [gS_3 hnt hg1 hoj hg2]; exact ⟨by show (1 : Int32) = b2 (d nm = d2 nm); rw [← hxd, ← hyd]; exact (b2_t c45).symm, by omega, hpd⟩⟩
        · skip
          refine JJ_iload_n dX12_not_75 rfl rfl ?_
          refine JJ_iret dX12_not_76 rfl ?_
          exact ⟨_, Ma, La, rfl, rfl, hfa, hla, by rw [gS_1 hnt hg1 ((if_neg (b2_0.mp c19)).trans (if_neg (b2_0.mp c34)))]; exact ⟨hxd, hij, hpa⟩⟩
  · skip
    refine JJ_aload_n dX12_not_18 rfl rfl ?_
    have htk := bw_n.mp c4
    refine JJ_callV (rest := []) hR.1 rfl rfl (kp_opens0 rfl hp hR hX) (by omega) mi_X12_opens lk_X12_202 rfl (Nat.le_of_ble_eq_true rfl) rfl rfl dX12_not_19 ?_
    intro v46 μ47 h48
    obtain ⟨rfl, rfl⟩ := h48
    refine JJ_r1 ?_
    refine JJ_if_ne (tgt := 27) dX12_not_22 (by decide) (fun c49 => absurd (by decide) c49) (fun _ => ?_)
    refine JJ_iconst (v := 0) dX12_not_25 rfl ?_
    refine JJ_iret dX12_not_26 rfl ?_
    exact ⟨_, _, L, rfl, rfl, (fun b k z => ((fl_n z).trans rfl)), fun _ _ _ => rfl, by rw [gN_0 htk, tok_s]; exact ⟨(up2_n (by omega)).trans up2_s, up2_s.trans hp.2.2.2.2.2.2.2.1⟩⟩
set_option maxHeartbeats 4000000 in
set_option maxRecDepth 100000 in
theorem kp_notS {n1 one : PF} {ds dt : Nat} (hf : f + 1 ≤ 5) (hdt : dt ≤ ds) (hds : 5 ≤ ds) (hB : ∀ i, i < m → 0 ≤ (b i).toInt) (ha : ∀ (i : Nat) (M : Nat → Nat → Int32) (L : Nat → Nat → Int64), PST o r m b nm (f + 1) i M L → KK G sc yX12_added cX12_added 4 (some .int) ds 0 0 [.ref o] (n, S, M, L, P) (PPO o r m b nm (f + 1) i n S P (gSum b m one i) M L)) (h1 : ∀ (i : Nat) (M : Nat → Nat → Int32) (L : Nat → Nat → Int64), PST o r m b nm f i M L → KK G sc yX12_not cX12_not 4 (some .int) dt 0 0 [.ref o] (n, S, M, L, P) (PPO o r m b nm f i n S P (n1 i) M L)) (hR : RWF o S P) (hX : HX o sc) : ∀ (i : Nat) (M : Nat → Nat → Int32) (L : Nat → Nat → Int64), PST o r m b nm (f + 1) i M L → KK G sc yX12_not cX12_not 4 (some .int) (ds + 1) 0 0 [.ref o] (n, S, M, L, P) (PPO o r m b nm (f + 1) i n S P (gNot b m true n1 one i) M L) := by
  intro i M L hp
  refine KK_of2 [(0, .ref o)] (by decide +kernel) (Nat.le_of_ble_eq_true rfl) rfl ?_
  refine JJ_aload_n dX12_not_0 rfl rfl ?_
  refine JJ_bipush (v := 110) dX12_not_1 rfl ?_
  refine JJ_bipush (v := 111) dX12_not_3 rfl ?_
  refine JJ_bipush (v := 116) dX12_not_5 rfl ?_
  refine JJ_iconst (v := 0) dX12_not_7 rfl ?_
  refine JJ_iconst (v := 0) dX12_not_8 rfl ?_
  refine JJ_iconst (v := 0) dX12_not_9 rfl ?_
  refine JJ_iconst (v := 0) dX12_not_10 rfl ?_
  refine JJ_iconst (v := 0) dX12_not_11 rfl ?_
  refine JJ_callV (rest := []) hR.1 rfl rfl (kp_not (m := m) (i := i) hp.1 hp.2.2.2.1 (hp.2.1.symm ▸ hp.2.2.2.2.2.2) hR hX) (by omega) mi_X12_isWord lk_X12_177 rfl (Nat.le_of_ble_eq_true rfl) rfl rfl dX12_not_12 ?_
  intro v1 μ2 h3
  obtain ⟨rfl, rfl⟩ := h3
  refine JJ_r1 ?_
  refine JJ_eqi (x2 := bw ((tok b m i).1 = 8)) (by rw [hp.2.1]) ?_
  refine JJ_if_eq (tgt := 52) dX12_not_15 (by decide) (fun c4 => ?_) (fun c4 => ?_)
  · skip
    refine JJ_aload_n dX12_not_52 rfl rfl ?_
    have hnt := bw_0.mp c4
    refine JJ_callV (rest := []) hR.1 rfl rfl (ha i M L hp) (by omega) mi_X12_added lk_X12_224 rfl (Nat.le_of_ble_eq_true rfl) rfl rfl dX12_not_53 ?_
    intro v5 μ6 h7
    obtain ⟨x, Ma, La, rfl, rfl, hfa, hla, hma⟩ := h7
    refine JJ_r1 ?_
    rcases hg1 : gSum b m one i with q | ⟨c, d, j⟩
    · skip
      rw [hg1] at hma
      obtain ⟨b29, b30⟩ : Ma o 29 = 1 ∧ Ma o 30 = nI q := hma
      refine JJ_istore_n (lv' := [(1, .int x), (0, .ref o)]) dX12_not_56 rfl (by decide) rfl ?_
      refine JJ_aload_n dX12_not_57 rfl rfl ?_
      refine JJ_bipush (v := 60) dX12_not_58 rfl ?_
      refine JJ_callV (rest := []) hR.1 rfl rfl (kp_isSign1 b29 hR hX) (by omega) mi_X12_isSign lk_X12_199 rfl (Nat.le_of_ble_eq_true rfl) rfl rfl dX12_not_60 ?_
      intro v8 μ9 h10
      obtain ⟨rfl, rfl⟩ := h10
      refine JJ_r1 ?_
      refine JJ_if_ne (tgt := 77) dX12_not_63 (by decide) (fun c11 => absurd (by decide) c11) (fun _ => ?_)
      refine JJ_aload_n dX12_not_66 rfl rfl ?_
      refine JJ_bipush (v := 61) dX12_not_67 rfl ?_
      refine JJ_callV (rest := []) hR.1 rfl rfl (kp_isSign1 b29 hR hX) (by omega) mi_X12_isSign lk_X12_199 rfl (Nat.le_of_ble_eq_true rfl) rfl rfl dX12_not_69 ?_
      intro v12 μ13 h14
      obtain ⟨rfl, rfl⟩ := h14
      refine JJ_r1 ?_
      refine JJ_if_ne (tgt := 77) dX12_not_72 (by decide) (fun c15 => absurd (by decide) c15) (fun _ => ?_)
      refine JJ_iload_n dX12_not_75 rfl rfl ?_
      refine JJ_iret dX12_not_76 rfl ?_
      exact ⟨_, Ma, La, rfl, rfl, hfa, hla, by rw [gS_0 hnt hg1]; exact ⟨b29, b30⟩⟩
    · skip
      rw [hg1] at hma
      obtain ⟨hxd, hij, hpa⟩ : x = d nm ∧ i < j ∧ PST o r m b nm (f + 1) j Ma La := hma
      refine JJ_istore_n (lv' := [(1, .int x), (0, .ref o)]) dX12_not_56 rfl (by decide) rfl ?_
      refine JJ_aload_n dX12_not_57 rfl rfl ?_
      refine JJ_bipush (v := 60) dX12_not_58 rfl ?_
      refine JJ_callV (rest := []) hR.1 rfl rfl (kp_isSign (c := 60) hpa.2.2.2.1 hpa.2.2.2.2.2.2 (by decide) hR hX) (by omega) mi_X12_isSign lk_X12_199 rfl (Nat.le_of_ble_eq_true rfl) rfl rfl dX12_not_60 ?_
      intro v16 μ17 h18
      obtain ⟨rfl, rfl⟩ := h18
      refine JJ_r1 ?_
      refine JJ_if_ne (tgt := 77) dX12_not_63 (by decide) (fun c19 => ?_) (fun c19 => ?_)
      · skip
        have htj : (tok b m j).1 = 60 := b2_n.mp c19
        have hoj : oCmp (tok b m j).1 = some (-11, fun x y => b2 (x < y)) := if_pos htj
        refine JJ_aload_n dX12_not_77 rfl rfl ?_
        refine JJ_getl (v := (60 : Int32).toInt64) (cis := [12]) (k := 27) fa_X12_151 (by decide) hR.1 rfl (hX.1 27) (tks_sg24 hpa.2.2.2.2.2.2 (by decide) htj).2 dX12_not_78 ?_
        refine JJ_ldc2 (v := 60) dX12_not_81 tb_1200 ?_
        refine JJ_lcmp dX12_not_84 ?_
        refine JJ_if_ne (tgt := 92) dX12_not_85 (by decide) (fun c20 => absurd (by decide) c20) (fun _ => ?_)
        refine JJ_iconst (v := 1) dX12_not_88 rfl ?_
        refine JJ_goto (tgt := 93) dX12_not_89 (by decide) ?_
        refine JJ_istore_n (lv' := [(2, .int 1), (1, .int x), (0, .ref o)]) dX12_not_93 rfl (by decide) rfl ?_
        refine JJ_aload_n dX12_not_94 rfl rfl ?_
        have hte := tks_e hpa.2.2.2.2.2.2 (by rw [htj]; decide)
        refine JJ_callV (rest := []) hR.1 rfl rfl (kp_nx (f := f + 1) hpa.1 hpa.2.1 hte.2.2 hpa.2.2.2.1 hpa.2.2.2.2.1 hpa.2.2.2.2.2.1 hB (tks_sg24 hpa.2.2.2.2.2.2 (by decide) htj).1 hR hX) (by omega) mi_X12_next lk_X12_174 rfl (Nat.le_of_ble_eq_true rfl) rfl rfl dX12_not_95 ?_
        intro v21 μ22 h23
        obtain ⟨rfl, Mc, Lc, rfl, hpc, hfc, hlc⟩ := h23
        refine JJ_r0 ?_
        refine JJ_aload_n dX12_not_98 rfl rfl ?_
        refine JJ_callV (rest := []) hR.1 rfl rfl (ha _ Mc Lc hpc) (by omega) mi_X12_added lk_X12_224 rfl (Nat.le_of_ble_eq_true rfl) rfl rfl dX12_not_99 ?_
        intro v24 μ25 h26
        obtain ⟨y, Md, Ld, rfl, rfl, hfd, hld, hmd⟩ := h26
        refine JJ_r1 ?_
        rcases hg2 : gSum b m one (tok b m j).2.2.2 with q | ⟨c2, d2, j2⟩
        · skip
          rw [hg2] at hmd
          obtain ⟨b29, b30⟩ : Md o 29 = 1 ∧ Md o 30 = nI q := hmd
          refine JJ_istore_n (lv' := [(3, .int y), (2, .int 1), (1, .int x), (0, .ref o)]) dX12_not_102 rfl (by decide) rfl ?_
          refine JJ_iload_n dX12_not_103 rfl rfl ?_
          refine JJ_if_eq (tgt := 115) dX12_not_104 (by decide) (fun c27 => absurd c27 (by decide)) (fun _ => ?_)
          refine JJ_iload_n dX12_not_107 rfl rfl ?_
          refine JJ_iload_n dX12_not_108 rfl rfl ?_
          refine JJ_icmp_ge (tgt := 124) dX12_not_109 (by decide) (fun c28 => ?_) (fun c28 => ?_)
          · skip
            refine JJ_iconst (v := 0) dX12_not_124 rfl ?_
            refine JJ_iret dX12_not_125 rfl ?_
            exact ⟨_, Md, Ld, rfl, rfl, (fun b k z => (hfd b k z).trans ((hfc b k z).trans (hfa b k z))), (fun b k z => (hld b k z).trans ((hlc b k z).trans (hla b k z))), by rw [gS_2 hnt hg1 hoj hg2]; exact ⟨b29, b30⟩⟩
          · skip
            refine JJ_goto (tgt := 120) dX12_not_112 (by decide) ?_
            refine JJ_iconst (v := 1) dX12_not_120 rfl ?_
            refine JJ_goto (tgt := 125) dX12_not_121 (by decide) ?_
            refine JJ_iret dX12_not_125 rfl ?_
            exact ⟨_, Md, Ld, rfl, rfl, (fun b k z => (hfd b k z).trans ((hfc b k z).trans (hfa b k z))), (fun b k z => (hld b k z).trans ((hlc b k z).trans (hla b k z))), by rw [gS_2 hnt hg1 hoj hg2]; exact ⟨b29, b30⟩⟩
        · skip
          rw [hg2] at hmd
          obtain ⟨hyd, hjj, hpd⟩ : y = d2 nm ∧ (tok b m j).2.2.2 < j2 ∧ PST o r m b nm (f + 1) j2 Md Ld := hmd
          refine JJ_istore_n (lv' := [(3, .int y), (2, .int 1), (1, .int x), (0, .ref o)]) dX12_not_102 rfl (by decide) rfl ?_
          refine JJ_iload_n dX12_not_103 rfl rfl ?_
          refine JJ_if_eq (tgt := 115) dX12_not_104 (by decide) (fun c29 => absurd c29 (by decide)) (fun _ => ?_)
          refine JJ_iload_n dX12_not_107 rfl rfl ?_
          refine JJ_iload_n dX12_not_108 rfl rfl ?_
          refine JJ_icmp_ge (tgt := 124) dX12_not_109 (by decide) (fun c30 => ?_) (fun c30 => ?_)
          · skip
            refine JJ_iconst (v := 0) dX12_not_124 rfl ?_
            refine JJ_iret dX12_not_125 rfl ?_
            exact ⟨_, Md, Ld, rfl, rfl, (fun b k z => (hfd b k z).trans ((hfc b k z).trans (hfa b k z))), (fun b k z => (hld b k z).trans ((hlc b k z).trans (hla b k z))), by rw [gS_3 hnt hg1 hoj hg2]; exact ⟨by show (0 : Int32) = b2 (d nm < d2 nm); rw [← hxd, ← hyd]; exact (b2_f (Int32.not_lt.mpr c30)).symm, by omega, hpd⟩⟩
          · skip
            refine JJ_goto (tgt := 120) dX12_not_112 (by decide) ?_
            refine JJ_iconst (v := 1) dX12_not_120 rfl ?_
            refine JJ_goto (tgt := 125) dX12_not_121 (by decide) ?_
            refine JJ_iret dX12_not_125 rfl ?_
            exact ⟨_, Md, Ld, rfl, rfl, (fun b k z => (hfd b k z).trans ((hfc b k z).trans (hfa b k z))), (fun b k z => (hld b k z).trans ((hlc b k z).trans (hla b k z))), by rw [gS_3 hnt hg1 hoj hg2]; exact ⟨by show (1 : Int32) = b2 (d nm < d2 nm); rw [← hxd, ← hyd]; exact (b2_t (Int32.not_le.mp c30)).symm, by omega, hpd⟩⟩
      · skip
        refine JJ_aload_n dX12_not_66 rfl rfl ?_
        refine JJ_bipush (v := 61) dX12_not_67 rfl ?_
        refine JJ_callV (rest := []) hR.1 rfl rfl (kp_isSign (c := 61) hpa.2.2.2.1 hpa.2.2.2.2.2.2 (by decide) hR hX) (by omega) mi_X12_isSign lk_X12_199 rfl (Nat.le_of_ble_eq_true rfl) rfl rfl dX12_not_69 ?_
        intro v31 μ32 h33
        obtain ⟨rfl, rfl⟩ := h33
        refine JJ_r1 ?_
        refine JJ_if_ne (tgt := 77) dX12_not_72 (by decide) (fun c34 => ?_) (fun c34 => ?_)
        · skip
          have htj : (tok b m j).1 = 61 := b2_n.mp c34
          have hoj : oCmp (tok b m j).1 = some (-12, fun x y => b2 (x = y)) := (if_neg (b2_0.mp c19)).trans (if_pos htj)
          refine JJ_aload_n dX12_not_77 rfl rfl ?_
          refine JJ_getl (v := (61 : Int32).toInt64) (cis := [12]) (k := 27) fa_X12_151 (by decide) hR.1 rfl (hX.1 27) (tks_sg24 hpa.2.2.2.2.2.2 (by decide) htj).2 dX12_not_78 ?_
          refine JJ_ldc2 (v := 60) dX12_not_81 tb_1200 ?_
          refine JJ_lcmp dX12_not_84 ?_
          refine JJ_if_ne (tgt := 92) dX12_not_85 (by decide) (fun _ => ?_) (fun c35 => absurd c35 (by decide))
          refine JJ_iconst (v := 0) dX12_not_92 rfl ?_
          refine JJ_istore_n (lv' := [(2, .int 0), (1, .int x), (0, .ref o)]) dX12_not_93 rfl (by decide) rfl ?_
          refine JJ_aload_n dX12_not_94 rfl rfl ?_
          have hte := tks_e hpa.2.2.2.2.2.2 (by rw [htj]; decide)
          refine JJ_callV (rest := []) hR.1 rfl rfl (kp_nx (f := f + 1) hpa.1 hpa.2.1 hte.2.2 hpa.2.2.2.1 hpa.2.2.2.2.1 hpa.2.2.2.2.2.1 hB (tks_sg24 hpa.2.2.2.2.2.2 (by decide) htj).1 hR hX) (by omega) mi_X12_next lk_X12_174 rfl (Nat.le_of_ble_eq_true rfl) rfl rfl dX12_not_95 ?_
          intro v36 μ37 h38
          obtain ⟨rfl, Mc, Lc, rfl, hpc, hfc, hlc⟩ := h38
          refine JJ_r0 ?_
          refine JJ_aload_n dX12_not_98 rfl rfl ?_
          refine JJ_callV (rest := []) hR.1 rfl rfl (ha _ Mc Lc hpc) (by omega) mi_X12_added lk_X12_224 rfl (Nat.le_of_ble_eq_true rfl) rfl rfl dX12_not_99 ?_
          intro v39 μ40 h41
          obtain ⟨y, Md, Ld, rfl, rfl, hfd, hld, hmd⟩ := h41
          refine JJ_r1 ?_
          rcases hg2 : gSum b m one (tok b m j).2.2.2 with q | ⟨c2, d2, j2⟩
          · skip
            rw [hg2] at hmd
            obtain ⟨b29, b30⟩ : Md o 29 = 1 ∧ Md o 30 = nI q := hmd
            refine JJ_istore_n (lv' := [(3, .int y), (2, .int 0), (1, .int x), (0, .ref o)]) dX12_not_102 rfl (by decide) rfl ?_
            refine JJ_iload_n dX12_not_103 rfl rfl ?_
            refine JJ_if_eq (tgt := 115) dX12_not_104 (by decide) (fun _ => ?_) (fun c42 => absurd (by decide) c42)
            refine JJ_iload_n dX12_not_115 rfl rfl ?_
            refine JJ_iload_n dX12_not_116 rfl rfl ?_
            refine JJ_icmp_ne (tgt := 124) dX12_not_117 (by decide) (fun c43 => ?_) (fun c43 => ?_)
            · skip
              refine JJ_iconst (v := 0) dX12_not_124 rfl ?_
              refine JJ_iret dX12_not_125 rfl ?_
              exact ⟨_, Md, Ld, rfl, rfl, (fun b k z => (hfd b k z).trans ((hfc b k z).trans (hfa b k z))), (fun b k z => (hld b k z).trans ((hlc b k z).trans (hla b k z))), by rw [gS_2 hnt hg1 hoj hg2]; exact ⟨b29, b30⟩⟩
            · skip
              refine JJ_iconst (v := 1) dX12_not_120 rfl ?_
              refine JJ_goto (tgt := 125) dX12_not_121 (by decide) ?_
              refine JJ_iret dX12_not_125 rfl ?_
              exact ⟨_, Md, Ld, rfl, rfl, (fun b k z => (hfd b k z).trans ((hfc b k z).trans (hfa b k z))), (fun b k z => (hld b k z).trans ((hlc b k z).trans (hla b k z))), by rw [gS_2 hnt hg1 hoj hg2]; exact ⟨b29, b30⟩⟩
          · skip
            rw [hg2] at hmd
            obtain ⟨hyd, hjj, hpd⟩ : y = d2 nm ∧ (tok b m j).2.2.2 < j2 ∧ PST o r m b nm (f + 1) j2 Md Ld := hmd
            refine JJ_istore_n (lv' := [(3, .int y), (2, .int 0), (1, .int x), (0, .ref o)]) dX12_not_102 rfl (by decide) rfl ?_
            refine JJ_iload_n dX12_not_103 rfl rfl ?_
            refine JJ_if_eq (tgt := 115) dX12_not_104 (by decide) (fun _ => ?_) (fun c44 => absurd (by decide) c44)
            refine JJ_iload_n dX12_not_115 rfl rfl ?_
            refine JJ_iload_n dX12_not_116 rfl rfl ?_
            refine JJ_icmp_ne (tgt := 124) dX12_not_117 (by decide) (fun c45 => ?_) (fun c45 => ?_)
            · skip
              refine JJ_iconst (v := 0) dX12_not_124 rfl ?_
              refine JJ_iret dX12_not_125 rfl ?_
              exact ⟨_, Md, Ld, rfl, rfl, (fun b k z => (hfd b k z).trans ((hfc b k z).trans (hfa b k z))), (fun b k z => (hld b k z).trans ((hlc b k z).trans (hla b k z))), by rw [gS_3 hnt hg1 hoj hg2]; exact ⟨by show (0 : Int32) = b2 (d nm = d2 nm); rw [← hxd, ← hyd]; exact (b2_f c45).symm, by omega, hpd⟩⟩
            · skip
              refine JJ_iconst (v := 1) dX12_not_120 rfl ?_
              refine JJ_goto (tgt := 125) dX12_not_121 (by decide) ?_
              refine JJ_iret dX12_not_125 rfl ?_
              exact ⟨_, Md, Ld, rfl, rfl, (fun b k z => (hfd b k z).trans ((hfc b k z).trans (hfa b k z))), (fun b k z => (hld b k z).trans ((hlc b k z).trans (hla b k z))), by rw [gS_3 hnt hg1 hoj hg2]; exact ⟨by show (1 : Int32) = b2 (d nm = d2 nm); rw [← hxd, ← hyd]; exact (b2_t c45).symm, by omega, hpd⟩⟩
        · skip
          refine JJ_iload_n dX12_not_75 rfl rfl ?_
          refine JJ_iret dX12_not_76 rfl ?_
          exact ⟨_, Ma, La, rfl, rfl, hfa, hla, by rw [gS_1 hnt hg1 ((if_neg (b2_0.mp c19)).trans (if_neg (b2_0.mp c34)))]; exact ⟨hxd, hij, hpa⟩⟩
  · skip
    refine JJ_aload_n dX12_not_18 rfl rfl ?_
    have htk := bw_n.mp c4
    have he := tks_e hp.2.2.2.2.2.2 (by rw [htk]; decide)
    have h25 : M o 25 = 1 := ((tok_key hp.2.2.2.2.2.2 (by decide) (fun s e h => wkey_8 h) (by decide) (by decide)).1.mp htk).1
    refine JJ_callV (rest := []) hR.1 rfl rfl (kp_opens hf hp hB he (tks_ky24 hp.2.2.2.2.2.2 h25) hR hX) (by omega) mi_X12_opens lk_X12_202 rfl (Nat.le_of_ble_eq_true rfl) rfl rfl dX12_not_19 ?_
    intro v46 μ47 h48
    obtain ⟨rfl, Mc, Lc, rfl, hpc, hfc, hlc⟩ := h48
    refine JJ_r1 ?_
    refine JJ_if_ne (tgt := 27) dX12_not_22 (by decide) (fun _ => ?_) (fun c49 => absurd c49 (by decide))
    refine JJ_aload_n dX12_not_27 rfl rfl ?_
    refine JJ_callV (rest := []) hR.1 rfl rfl (h1 _ Mc Lc hpc) (by omega) mi_X12_not lk_X12_221 rfl (Nat.le_of_ble_eq_true rfl) rfl rfl dX12_not_28 ?_
    intro v50 μ51 h52
    obtain ⟨x, Ma, La, rfl, rfl, hfa, hla, hma⟩ := h52
    refine JJ_r1 ?_
    rcases hg1 : n1 (tok b m i).2.2.2 with q | ⟨c, d, j⟩
    · skip
      rw [hg1] at hma
      obtain ⟨b29, b30⟩ : Ma o 29 = 1 ∧ Ma o 30 = nI q := hma
      refine JJ_istore_n (lv' := [(1, .int x), (0, .ref o)]) dX12_not_31 rfl (by decide) rfl ?_
      refine JJ_aload_n dX12_not_32 rfl rfl ?_
      refine JJ_dup dX12_not_33 rfl ?_
      refine JJ_geti (v := Ma o 28) (cis := [12]) (k := 28) fa_X12_168 (by decide) hR.1 rfl (hX.1 28) rfl dX12_not_34 ?_
      refine JJ_iconst (v := 1) dX12_not_37 rfl ?_
      refine JJ_isub dX12_not_38 ?_
      refine JJ_puti (cis := [12]) (k := 28) fa_X12_168 (by decide) hR.1 rfl (fun r hr => by cases hr; exact ⟨rfl, by decide +kernel⟩) dX12_not_39 (fun M53 hM54 => ?_)
      refine JJ_iload_n dX12_not_42 rfl rfl ?_
      refine JJ_if_ne (tgt := 50) dX12_not_43 (by decide) (fun c55 => ?_) (fun c55 => ?_)
      · skip
        refine JJ_iconst (v := 0) dX12_not_50 rfl ?_
        refine JJ_iret dX12_not_51 rfl ?_
        exact ⟨_, _, La, rfl, rfl, (fun b k z => (rd_n hM54 (fun e => z (by unfold PD; omega)) ((fun b k z => (hfa b k z).trans (hfc b k z)) b k z))), fun b k z => (hla b k z).trans (hlc b k z), by rw [gN_1 htk hg1]; exact ⟨(rd_n hM54 (by omega) b29), (rd_n hM54 (by omega) rfl).trans b30⟩⟩
      · skip
        refine JJ_iconst (v := 1) dX12_not_46 rfl ?_
        refine JJ_goto (tgt := 51) dX12_not_47 (by decide) ?_
        refine JJ_iret dX12_not_51 rfl ?_
        exact ⟨_, _, La, rfl, rfl, (fun b k z => (rd_n hM54 (fun e => z (by unfold PD; omega)) ((fun b k z => (hfa b k z).trans (hfc b k z)) b k z))), fun b k z => (hla b k z).trans (hlc b k z), by rw [gN_1 htk hg1]; exact ⟨(rd_n hM54 (by omega) b29), (rd_n hM54 (by omega) rfl).trans b30⟩⟩
    · skip
      rw [hg1] at hma
      obtain ⟨hxd, hij, hpa⟩ : x = d nm ∧ (tok b m i).2.2.2 < j ∧ PST o r m b nm f j Ma La := hma
      refine JJ_istore_n (lv' := [(1, .int x), (0, .ref o)]) dX12_not_31 rfl (by decide) rfl ?_
      refine JJ_aload_n dX12_not_32 rfl rfl ?_
      refine JJ_dup dX12_not_33 rfl ?_
      refine JJ_geti (v := nI (5 - f)) (cis := [12]) (k := 28) fa_X12_168 (by decide) hR.1 rfl (hX.1 28) hpa.2.2.2.2.1 dX12_not_34 ?_
      refine JJ_iconst (v := 1) dX12_not_37 rfl ?_
      refine JJ_isub dX12_not_38 ?_
      refine JJ_eqi (x2 := nI (5 - (f + 1))) (nI_dn hf) ?_
      refine JJ_puti (cis := [12]) (k := 28) fa_X12_168 (by decide) hR.1 rfl (fun r hr => by cases hr; exact ⟨rfl, by decide +kernel⟩) dX12_not_39 (fun M56 hM57 => ?_)
      refine JJ_iload_n dX12_not_42 rfl rfl ?_
      refine JJ_if_ne (tgt := 50) dX12_not_43 (by decide) (fun c58 => ?_) (fun c58 => ?_)
      · skip
        refine JJ_iconst (v := 0) dX12_not_50 rfl ?_
        refine JJ_iret dX12_not_51 rfl ?_
        exact ⟨_, _, La, rfl, rfl, (fun b k z => (rd_n hM57 (fun e => z (by unfold PD; omega)) ((fun b k z => (hfa b k z).trans (hfc b k z)) b k z))), fun b k z => (hla b k z).trans (hlc b k z), by rw [gN_2 htk hg1]; exact ⟨(b2_f (fun z => c58 (hxd.trans z))).symm, by omega, pst_up hpa hM57⟩⟩
      · skip
        refine JJ_iconst (v := 1) dX12_not_46 rfl ?_
        refine JJ_goto (tgt := 51) dX12_not_47 (by decide) ?_
        refine JJ_iret dX12_not_51 rfl ?_
        exact ⟨_, _, La, rfl, rfl, (fun b k z => (rd_n hM57 (fun e => z (by unfold PD; omega)) ((fun b k z => (hfa b k z).trans (hfc b k z)) b k z))), fun b k z => (hla b k z).trans (hlc b k z), by rw [gN_2 htk hg1]; exact ⟨(b2_t (hxd.symm.trans c58)).symm, by omega, pst_up hpa hM57⟩⟩
end RY1
