section RZ1
variable {G : Gx} {sc : Nat → Nat → Prop} {n : Nat} {S : Nat → Nat × Nat} {M : Nat → Nat → Int32} {L : Nat → Nat → Int64} {P : Nat → Nat → Option Nat} {o : Nat} {r m : Nat} {b : Nat → Int32} {nm : Nms}

set_option maxHeartbeats 4000000 in
set_option maxRecDepth 100000 in
theorem kp_part {i : Nat} {key kk : Int32} (hB : ∀ i, i < m → 0 ≤ (b i).toInt) (hp : PST o r m b nm 5 i M L) (hne : key ≠ 0) (h25 : (tok b m i).1 = key → M o 25 = 1) (hkz : kk = 0 ∨ kk = 1) (hk : kk = bw ((tok b m i).1 = key)) (he : ∀ (i : Nat) (M : Nat → Nat → Int32) (L : Nat → Nat → Int64), PST o r m b nm 5 i M L → KK G sc yX12_either cX12_either 3 (some .int) 40 0 0 [.ref o] (n, S, M, L, P) (PPO o r m b nm 5 i n S P ((lev b m 5).2.2 i) M L)) (hR : RWF o S P) (hX : HX o sc) : KK G sc yX12_part cX12_part 3 (some .int) 41 0 0 [.ref o, .int kk] (n, S, M, L, P) (PPO o r m b nm 5 i n S P (gPart b m key i) M L) := by
  refine KK_of2 [(0, .ref o), (1, .int kk)] (by decide +kernel) (Nat.le_of_ble_eq_true rfl) rfl ?_
  refine JJ_iload_n dX12_part_0 rfl rfl ?_
  refine JJ_if_ne (tgt := 8) dX12_part_1 (by decide) (fun c1 => ?_) (fun c1 => ?_)
  · skip
    refine JJ_aload_n dX12_part_8 rfl rfl ?_
    refine JJ_geti (v := 0) (cis := [12]) (k := 29) fa_X12_157 (by decide) hR.1 rfl (hX.1 29) hp.2.2.2.1 dX12_part_9 ?_
    refine JJ_if_ne (tgt := 19) dX12_part_12 (by decide) (fun c2 => absurd (by decide) c2) (fun _ => ?_)
    refine JJ_aload_n dX12_part_15 rfl rfl ?_
    have htk : (tok b m i).1 = key := bw_n.mp (hk ▸ c1)
    have hte := tks_e hp.2.2.2.2.2.2 (by rw [htk]; exact hne)
    refine JJ_callV (rest := []) hR.1 rfl rfl (kp_nx (f := 5) hp.1 hp.2.1 hte.2.2 hp.2.2.2.1 hp.2.2.2.2.1 hp.2.2.2.2.2.1 hB (tks_ky24 hp.2.2.2.2.2.2 (h25 htk)) hR hX) (by omega) mi_X12_next lk_X12_174 rfl (Nat.le_of_ble_eq_true rfl) rfl rfl dX12_part_16 ?_
    intro v3 μ4 h5
    obtain ⟨rfl, Mc, Lc, rfl, hpc, hfc, hlc⟩ := h5
    refine JJ_r0 ?_
    refine JJ_aload_n dX12_part_19 rfl rfl ?_
    refine JJ_geti (v := 0) (cis := [12]) (k := 29) fa_X12_157 (by decide) hR.1 rfl (hX.1 29) hpc.2.2.2.1 dX12_part_20 ?_
    refine JJ_if_eq (tgt := 30) dX12_part_23 (by decide) (fun _ => ?_) (fun c6 => absurd (by decide) c6)
    refine JJ_aload_n dX12_part_30 rfl rfl ?_
    refine JJ_callV (rest := []) hR.1 rfl rfl (he _ Mc Lc hpc) (by omega) mi_X12_either lk_X12_210 rfl (Nat.le_of_ble_eq_true rfl) rfl rfl dX12_part_31 ?_
    intro v7 μ8 h9
    obtain ⟨x, Ma, La, rfl, rfl, hfa, hla, hma⟩ := h9
    refine JJ_r1 ?_
    rcases hg1 : (lev b m 5).2.2 (tok b m i).2.2.2 with q | ⟨c, d, j⟩
    · skip
      rw [hg1] at hma
      obtain ⟨b29, b30⟩ : Ma o 29 = 1 ∧ Ma o 30 = nI q := hma
      refine JJ_istore_n (lv' := [(2, .int x), (0, .ref o), (1, .int kk)]) dX12_part_34 rfl (by decide) rfl ?_
      refine JJ_aload_n dX12_part_35 rfl rfl ?_
      refine JJ_bipush (v := 59) dX12_part_36 rfl ?_
      refine JJ_callV (rest := []) hR.1 rfl rfl (kp_isSign1 b29 hR hX) (by omega) mi_X12_isSign lk_X12_199 rfl (Nat.le_of_ble_eq_true rfl) rfl rfl dX12_part_38 ?_
      intro v10 μ11 h12
      obtain ⟨rfl, rfl⟩ := h12
      refine JJ_r1 ?_
      refine JJ_if_ne (tgt := 48) dX12_part_41 (by decide) (fun c13 => absurd (by decide) c13) (fun _ => ?_)
      refine JJ_aload_n dX12_part_44 rfl rfl ?_
      refine JJ_callV (rest := []) hR.1 rfl rfl (kp_fail1 b29 hR hX) (by omega) mi_X12_fail lk_X12_171 rfl (Nat.le_of_ble_eq_true rfl) rfl rfl dX12_part_45 ?_
      intro v14 μ15 h16
      obtain ⟨rfl, rfl⟩ := h16
      refine JJ_r0 ?_
      refine JJ_aload_n dX12_part_48 rfl rfl ?_
      refine JJ_geti (v := 1) (cis := [12]) (k := 29) fa_X12_157 (by decide) hR.1 rfl (hX.1 29) b29 dX12_part_49 ?_
      refine JJ_if_ne (tgt := 59) dX12_part_52 (by decide) (fun _ => ?_) (fun c17 => absurd c17 (by decide))
      refine JJ_iload_n dX12_part_59 rfl rfl ?_
      refine JJ_iret dX12_part_60 rfl ?_
      exact ⟨_, Ma, La, rfl, rfl, (fun b k z => (hfa b k z).trans (hfc b k z)), fun b k z => (hla b k z).trans (hlc b k z), by rw [gQ_1 htk hg1]; exact ⟨b29, b30⟩⟩
    · skip
      rw [hg1] at hma
      obtain ⟨hxd, hij, hpa⟩ : x = d nm ∧ (tok b m i).2.2.2 < j ∧ PST o r m b nm 5 j Ma La := hma
      refine JJ_istore_n (lv' := [(2, .int x), (0, .ref o), (1, .int kk)]) dX12_part_34 rfl (by decide) rfl ?_
      refine JJ_aload_n dX12_part_35 rfl rfl ?_
      refine JJ_bipush (v := 59) dX12_part_36 rfl ?_
      refine JJ_callV (rest := []) hR.1 rfl rfl (kp_isSign (c := 59) hpa.2.2.2.1 hpa.2.2.2.2.2.2 (by decide) hR hX) (by omega) mi_X12_isSign lk_X12_199 rfl (Nat.le_of_ble_eq_true rfl) rfl rfl dX12_part_38 ?_
      intro v18 μ19 h20
      obtain ⟨rfl, rfl⟩ := h20
      refine JJ_r1 ?_
      refine JJ_if_ne (tgt := 48) dX12_part_41 (by decide) (fun c21 => ?_) (fun c21 => ?_)
      · skip
        have htj := b2_n.mp c21
        refine JJ_aload_n dX12_part_48 rfl rfl ?_
        refine JJ_geti (v := 0) (cis := [12]) (k := 29) fa_X12_157 (by decide) hR.1 rfl (hX.1 29) hpa.2.2.2.1 dX12_part_49 ?_
        refine JJ_if_ne (tgt := 59) dX12_part_52 (by decide) (fun c22 => absurd (by decide) c22) (fun _ => ?_)
        refine JJ_aload_n dX12_part_55 rfl rfl ?_
        have hte2 := tks_e hpa.2.2.2.2.2.2 (by rw [htj]; decide)
        refine JJ_callV (rest := []) hR.1 rfl rfl (kp_nx (f := 5) hpa.1 hpa.2.1 hte2.2.2 hpa.2.2.2.1 hpa.2.2.2.2.1 hpa.2.2.2.2.2.1 hB (tks_sg24 hpa.2.2.2.2.2.2 (by decide) htj).1 hR hX) (by omega) mi_X12_next lk_X12_174 rfl (Nat.le_of_ble_eq_true rfl) rfl rfl dX12_part_56 ?_
        intro v23 μ24 h25
        obtain ⟨rfl, Md, Ld, rfl, hpd, hfd, hld⟩ := h25
        refine JJ_r0 ?_
        refine JJ_iload_n dX12_part_59 rfl rfl ?_
        refine JJ_iret dX12_part_60 rfl ?_
        exact ⟨_, Md, Ld, rfl, rfl, fun b k z => (hfd b k z).trans ((fun b k z => (hfa b k z).trans (hfc b k z)) b k z), fun b k z => (hld b k z).trans ((hla b k z).trans (hlc b k z)), by rw [gQ_3 htk hg1 htj]; exact ⟨hxd, by omega, hpd⟩⟩
      · skip
        refine JJ_aload_n dX12_part_44 rfl rfl ?_
        refine JJ_callV (rest := []) hR.1 rfl rfl (kp_fail0 hpa.2.2.2.1 hR hX) (by omega) mi_X12_fail lk_X12_171 rfl (Nat.le_of_ble_eq_true rfl) rfl rfl dX12_part_45 ?_
        intro v26 μ27 h28
        obtain ⟨rfl, rfl⟩ := h28
        refine JJ_r0 ?_
        refine JJ_aload_n dX12_part_48 rfl rfl ?_
        refine JJ_geti (v := 1) (cis := [12]) (k := 29) fa_X12_157 (by decide) hR.1 rfl (hX.1 29) ((up2_n (by omega)).trans up2_s) dX12_part_49 ?_
        refine JJ_if_ne (tgt := 59) dX12_part_52 (by decide) (fun _ => ?_) (fun c29 => absurd c29 (by decide))
        refine JJ_iload_n dX12_part_59 rfl rfl ?_
        refine JJ_iret dX12_part_60 rfl ?_
        exact ⟨_, _, La, rfl, rfl, (fun b k z => ((fl_n z).trans ((fun b k z => (hfa b k z).trans (hfc b k z)) b k z))), fun b k z => (hla b k z).trans (hlc b k z), by rw [gQ_2 htk hg1 (b2_0.mp c21), tok_s]; exact ⟨(up2_n (by omega)).trans up2_s, up2_s.trans hpa.2.2.2.2.2.2.2.1⟩⟩
  · skip
    refine JJ_aload_n dX12_part_4 rfl rfl ?_
    refine JJ_callV (rest := []) hR.1 rfl rfl (kp_fail0 hp.2.2.2.1 hR hX) (by omega) mi_X12_fail lk_X12_171 rfl (Nat.le_of_ble_eq_true rfl) rfl rfl dX12_part_5 ?_
    intro v30 μ31 h32
    obtain ⟨rfl, rfl⟩ := h32
    refine JJ_r0 ?_
    refine JJ_aload_n dX12_part_8 rfl rfl ?_
    refine JJ_geti (v := 1) (cis := [12]) (k := 29) fa_X12_157 (by decide) hR.1 rfl (hX.1 29) ((up2_n (by omega)).trans up2_s) dX12_part_9 ?_
    refine JJ_if_ne (tgt := 19) dX12_part_12 (by decide) (fun _ => ?_) (fun c33 => absurd c33 (by decide))
    refine JJ_aload_n dX12_part_19 rfl rfl ?_
    refine JJ_geti (v := 1) (cis := [12]) (k := 29) fa_X12_157 (by decide) hR.1 rfl (hX.1 29) ((up2_n (by omega)).trans up2_s) dX12_part_20 ?_
    refine JJ_if_eq (tgt := 30) dX12_part_23 (by decide) (fun c34 => absurd c34 (by decide)) (fun _ => ?_)
    refine JJ_iconst (v := 0) dX12_part_26 rfl ?_
    refine JJ_goto (tgt := 34) dX12_part_27 (by decide) ?_
    refine JJ_istore_n (lv' := [(2, .int 0), (0, .ref o), (1, .int kk)]) dX12_part_34 rfl (by decide) rfl ?_
    refine JJ_aload_n dX12_part_35 rfl rfl ?_
    refine JJ_bipush (v := 59) dX12_part_36 rfl ?_
    refine JJ_callV (rest := []) hR.1 rfl rfl (kp_isSign1 ((up2_n (by omega)).trans up2_s) hR hX) (by omega) mi_X12_isSign lk_X12_199 rfl (Nat.le_of_ble_eq_true rfl) rfl rfl dX12_part_38 ?_
    intro v35 μ36 h37
    obtain ⟨rfl, rfl⟩ := h37
    refine JJ_r1 ?_
    refine JJ_if_ne (tgt := 48) dX12_part_41 (by decide) (fun c38 => absurd (by decide) c38) (fun _ => ?_)
    refine JJ_aload_n dX12_part_44 rfl rfl ?_
    refine JJ_callV (rest := []) hR.1 rfl rfl (kp_fail1 ((up2_n (by omega)).trans up2_s) hR hX) (by omega) mi_X12_fail lk_X12_171 rfl (Nat.le_of_ble_eq_true rfl) rfl rfl dX12_part_45 ?_
    intro v39 μ40 h41
    obtain ⟨rfl, rfl⟩ := h41
    refine JJ_r0 ?_
    refine JJ_aload_n dX12_part_48 rfl rfl ?_
    refine JJ_geti (v := 1) (cis := [12]) (k := 29) fa_X12_157 (by decide) hR.1 rfl (hX.1 29) ((up2_n (by omega)).trans up2_s) dX12_part_49 ?_
    refine JJ_if_ne (tgt := 59) dX12_part_52 (by decide) (fun _ => ?_) (fun c42 => absurd c42 (by decide))
    refine JJ_iload_n dX12_part_59 rfl rfl ?_
    refine JJ_iret dX12_part_60 rfl ?_
    exact ⟨_, _, L, rfl, rfl, (fun b k z => ((fl_n z).trans rfl)), fun _ _ _ => rfl, by rw [gQ_0 (bw_0.mp (hk ▸ c1)), tok_s]; exact ⟨(up2_n (by omega)).trans up2_s, up2_s.trans hp.2.2.2.2.2.2.2.1⟩⟩
set_option maxHeartbeats 4000000 in
set_option maxRecDepth 100000 in
theorem kp_read {wk : Nat} {wi : Int32} (hw : wk < 3 ∧ wi = nI wk) (hr : r < 6) (hm160 : m ≤ 160) (hm : M (o + 2) r = nI m) (hB : ∀ i, i < m → 0 ≤ (TB o r M i).toInt) (hn : ∀ k, k < 6 → M o (16 + k) = nm k) (hR : RWF o S P) (hX : HX o sc) : KK G sc yX12_read cX12_read 6 (some .int) 42 0 0 [.ref o, .int (nI r), .int wi] (n, S, M, L, P) (fun v μ => ∃ x M' L', v = some (.int x) ∧ μ = (n, S, M', L', P) ∧ (∀ b k, ¬ PDR o b k → M' b k = M b k) ∧ (∀ b k, ¬ (b = o ∧ k = 27) → L' b k = L b k) ∧ (match gText (TB o r M) m with | .inl q => M' o 29 = 1 ∧ M' o 30 = nI q | .inr (_, d0, d1, d2) => M' o 29 = 0 ∧ x = s3 wk (d0 nm) (d1 nm) (d2 nm))) := by
  have hlv := (kp_lev (G := G) (n := n) (r := r) (nm := nm) hB hR hX 5 (by omega)).2.2
  refine KK_of2 [(0, .ref o), (1, .int (nI r)), (2, .int wi)] (by decide +kernel) (Nat.le_of_ble_eq_true rfl) rfl ?_
  refine JJ_aload_n dX12_read_0 rfl rfl ?_
  refine JJ_sipush (v := 160) dX12_read_1 rfl ?_
  refine JJ_iload_n dX12_read_4 rfl rfl ?_
  refine JJ_imul dX12_read_5 ?_
  refine JJ_eqi (x2 := nI (160 * r)) (pk_mul (160) (r)) ?_
  refine JJ_puti (cis := [12]) (k := 22) fa_X12_127 (by decide) hR.1 rfl (fun r hr => by cases hr; exact ⟨rfl, by decide +kernel⟩) dX12_read_6 (fun M1 hM2 => ?_)
  refine JJ_aload_n dX12_read_9 rfl rfl ?_
  refine JJ_aload_n dX12_read_10 rfl rfl ?_
  refine JJ_getr (q := o + 2) (cis := [12]) (k := 2) fa_X12_17 (by decide) hR.1 rfl (hR.2 (2, 2, 20, 6) (by decide)).1 dX12_read_11 ?_
  refine JJ_iload_n dX12_read_14 rfl rfl ?_
  refine JJ_ialdX (v := nI m) (hR.2 (2, 2, 20, 6) (by decide)).2 (IX_nI (by omega) (by omega)) (hX.2 2 _ (by decide) (by decide)) (rd_n hM2 (by omega) hm) dX12_read_15 ?_
  refine JJ_puti (cis := [12]) (k := 23) fa_X12_124 (by decide) hR.1 rfl (fun r hr => by cases hr; exact ⟨rfl, by decide +kernel⟩) dX12_read_16 (fun M3 hM4 => ?_)
  refine JJ_aload_n dX12_read_19 rfl rfl ?_
  refine JJ_iconst (v := 0) dX12_read_20 rfl ?_
  refine JJ_puti (cis := [12]) (k := 24) fa_X12_130 (by decide) hR.1 rfl (fun r hr => by cases hr; exact ⟨rfl, by decide +kernel⟩) dX12_read_21 (fun M5 hM6 => ?_)
  refine JJ_aload_n dX12_read_24 rfl rfl ?_
  refine JJ_iconst (v := 0) dX12_read_25 rfl ?_
  refine JJ_puti (cis := [12]) (k := 28) fa_X12_168 (by decide) hR.1 rfl (fun r hr => by cases hr; exact ⟨rfl, by decide +kernel⟩) dX12_read_26 (fun M7 hM8 => ?_)
  refine JJ_aload_n dX12_read_29 rfl rfl ?_
  refine JJ_iconst (v := 0) dX12_read_30 rfl ?_
  refine JJ_putz (cis := [12]) (k := 29) fa_X12_157 (by decide) hR.1 rfl (fun r hr => by cases hr; exact ⟨rfl, by decide +kernel⟩) (Or.inl rfl) dX12_read_31 (fun M9 hM10 => ?_)
  refine JJ_aload_n dX12_read_34 rfl rfl ?_
  have hk0 : ∀ b k, ¬ PDR o b k → M9 b k = M b k := fun b k z => (rd_n hM10 (fun e => z (by unfold PDR; omega)) (rd_n hM8 (fun e => z (by unfold PDR; omega)) (rd_n hM6 (fun e => z (by unfold PDR; omega)) (rd_n hM4 (fun e => z (by unfold PDR; omega)) (rd_n hM2 (fun e => z (by unfold PDR; omega)) rfl)))))
  have hT0 : TB o r M9 = TB o r M := funext fun i => hk0 _ _ (by unfold PDR; omega)
  refine JJ_callV (rest := []) hR.1 rfl rfl (kp_nx (f := 5) (b := TB o r M) (nm := nm) (r := r) (m := m) (j := 0) ⟨hr, hm160, (rd_n hM10 (by omega) (rd_n hM8 (by omega) (rd_n hM6 (by omega) (rd_n hM4 (by omega) (rd_s hM2))))), (rd_n hM10 (by omega) (rd_n hM8 (by omega) (rd_n hM6 (by omega) (rd_s hM4))))⟩ hT0 (Nat.zero_le _) (rd_s hM10) (rd_n hM10 (by omega) (rd_s hM8)) (fun k hk => (hk0 _ _ (by unfold PDR; omega)).trans (hn k hk)) hB (rd_n hM10 (by omega) (rd_n hM8 (by omega) (rd_s hM6))) hR hX) (by omega) mi_X12_next lk_X12_174 rfl (Nat.le_of_ble_eq_true rfl) rfl rfl dX12_read_35 ?_
  intro v11 μ12 h13
  obtain ⟨rfl, Mc, Lc, rfl, hpc, hfc, hlc⟩ := h13
  refine JJ_r0 ?_
  refine JJ_aload_n dX12_read_38 rfl rfl ?_
  refine JJ_aload_n dX12_read_39 rfl rfl ?_
  refine JJ_bipush (v := 102) dX12_read_40 rfl ?_
  refine JJ_bipush (v := 108) dX12_read_42 rfl ?_
  refine JJ_bipush (v := 105) dX12_read_44 rfl ?_
  refine JJ_bipush (v := 101) dX12_read_46 rfl ?_
  refine JJ_bipush (v := 115) dX12_read_48 rfl ?_
  refine JJ_iconst (v := 0) dX12_read_50 rfl ?_
  refine JJ_iconst (v := 0) dX12_read_51 rfl ?_
  refine JJ_iconst (v := 0) dX12_read_52 rfl ?_
  refine JJ_callV (rest := [.ref o]) hR.1 rfl rfl (kp_flies (m := m) (i := 0) hpc.1 hpc.2.2.2.1 (hpc.2.1.symm ▸ hpc.2.2.2.2.2.2) hR hX) (by omega) mi_X12_isWord lk_X12_177 rfl (Nat.le_of_ble_eq_true rfl) rfl rfl dX12_read_53 ?_
  intro v14 μ15 h16
  obtain ⟨rfl, rfl⟩ := h16
  refine JJ_r1 ?_
  refine JJ_callV (rest := []) hR.1 rfl rfl (kp_part (key := 3) (i := 0) hB hpc (by decide) (fun e => ((tok_key hpc.2.2.2.2.2.2 (by decide) (fun s e h => wkey_3 h) (by decide) (by decide)).1.mp e).1) (bw_z _) (by rw [hpc.2.1]) hlv hR hX) (by omega) mi_X12_part lk_X12_232 rfl (Nat.le_of_ble_eq_true rfl) rfl rfl dX12_read_56 ?_
  intro v17 μ18 h19
  obtain ⟨x0, Mp1, Lp1, rfl, rfl, hf1, hl1, hm1⟩ := h19
  refine JJ_r1 ?_
  rcases hg0 : gPart (TB o r M) m 3 0 with q | ⟨c0x, d0, i0⟩
  · skip
    rw [hg0] at hm1
    obtain ⟨b29, b30⟩ : Mp1 o 29 = 1 ∧ Mp1 o 30 = nI q := hm1
    refine JJ_istore_n (lv' := [(3, .int x0), (0, .ref o), (1, .int (nI r)), (2, .int wi)]) dX12_read_59 rfl (by decide) rfl ?_
    refine JJ_aload_n dX12_read_60 rfl rfl ?_
    refine JJ_geti (v := 1) (cis := [12]) (k := 29) fa_X12_157 (by decide) hR.1 rfl (hX.1 29) b29 dX12_read_61 ?_
    refine JJ_if_eq (tgt := 71) dX12_read_64 (by decide) (fun c20 => absurd c20 (by decide)) (fun _ => ?_)
    refine JJ_iconst (v := 0) dX12_read_67 rfl ?_
    refine JJ_goto (tgt := 92) dX12_read_68 (by decide) ?_
    refine JJ_istore (lv' := [(4, .int 0), (3, .int x0), (0, .ref o), (1, .int (nI r)), (2, .int wi)]) dX12_read_92 (by decide) rfl ?_
    refine JJ_aload_n dX12_read_94 rfl rfl ?_
    refine JJ_geti (v := 1) (cis := [12]) (k := 29) fa_X12_157 (by decide) hR.1 rfl (hX.1 29) b29 dX12_read_95 ?_
    refine JJ_if_eq (tgt := 105) dX12_read_98 (by decide) (fun c21 => absurd c21 (by decide)) (fun _ => ?_)
    refine JJ_iconst (v := 0) dX12_read_101 rfl ?_
    refine JJ_goto (tgt := 126) dX12_read_102 (by decide) ?_
    refine JJ_istore (lv' := [(5, .int 0), (4, .int 0), (3, .int x0), (0, .ref o), (1, .int (nI r)), (2, .int wi)]) dX12_read_126 (by decide) rfl ?_
    refine JJ_aload_n dX12_read_128 rfl rfl ?_
    refine JJ_geti (v := 1) (cis := [12]) (k := 29) fa_X12_157 (by decide) hR.1 rfl (hX.1 29) b29 dX12_read_129 ?_
    refine JJ_if_ne (tgt := 146) dX12_read_132 (by decide) (fun _ => ?_) (fun c22 => absurd c22 (by decide))
    refine JJ_iload_n dX12_read_146 rfl rfl ?_
    refine JJ_if_ne (tgt := 154) dX12_read_147 (by decide) (fun c23 => ?_) (fun c23 => ?_)
    · skip
      refine JJ_iload_n dX12_read_154 rfl rfl ?_
      refine JJ_iconst (v := 1) dX12_read_155 rfl ?_
      refine JJ_icmp_ne (tgt := 164) dX12_read_156 (by decide) (fun c24 => ?_) (fun c24 => ?_)
      · skip
        refine JJ_iload dX12_read_164 rfl ?_
        refine JJ_iret dX12_read_166 rfl ?_
        exact ⟨_, Mp1, Lp1, rfl, rfl, (fun b k z => ((hf1 b k (fun q => z (pd_r q))).trans ((hfc b k (fun q => z (pd_r q))).trans (hk0 b k z)))), (fun b k z => ((hl1 b k z).trans (hlc b k z))), by rw [gX_0 hg0]; exact ⟨b29, b30⟩⟩
      · skip
        refine JJ_iload dX12_read_159 rfl ?_
        refine JJ_goto (tgt := 166) dX12_read_161 (by decide) ?_
        refine JJ_iret dX12_read_166 rfl ?_
        exact ⟨_, Mp1, Lp1, rfl, rfl, (fun b k z => ((hf1 b k (fun q => z (pd_r q))).trans ((hfc b k (fun q => z (pd_r q))).trans (hk0 b k z)))), (fun b k z => ((hl1 b k z).trans (hlc b k z))), by rw [gX_0 hg0]; exact ⟨b29, b30⟩⟩
    · skip
      refine JJ_iload_n dX12_read_150 rfl rfl ?_
      refine JJ_goto (tgt := 166) dX12_read_151 (by decide) ?_
      refine JJ_iret dX12_read_166 rfl ?_
      exact ⟨_, Mp1, Lp1, rfl, rfl, (fun b k z => ((hf1 b k (fun q => z (pd_r q))).trans ((hfc b k (fun q => z (pd_r q))).trans (hk0 b k z)))), (fun b k z => ((hl1 b k z).trans (hlc b k z))), by rw [gX_0 hg0]; exact ⟨b29, b30⟩⟩
  · skip
    rw [hg0] at hm1
    obtain ⟨hx0, hij0, hp1⟩ : x0 = d0 nm ∧ 0 < i0 ∧ PST o r m (TB o r M) nm 5 i0 Mp1 Lp1 := hm1
    refine JJ_istore_n (lv' := [(3, .int x0), (0, .ref o), (1, .int (nI r)), (2, .int wi)]) dX12_read_59 rfl (by decide) rfl ?_
    refine JJ_aload_n dX12_read_60 rfl rfl ?_
    refine JJ_geti (v := 0) (cis := [12]) (k := 29) fa_X12_157 (by decide) hR.1 rfl (hX.1 29) hp1.2.2.2.1 dX12_read_61 ?_
    refine JJ_if_eq (tgt := 71) dX12_read_64 (by decide) (fun _ => ?_) (fun c25 => absurd (by decide) c25)
    refine JJ_aload_n dX12_read_71 rfl rfl ?_
    refine JJ_aload_n dX12_read_72 rfl rfl ?_
    refine JJ_bipush (v := 115) dX12_read_73 rfl ?_
    refine JJ_bipush (v := 116) dX12_read_75 rfl ?_
    refine JJ_bipush (v := 101) dX12_read_77 rfl ?_
    refine JJ_bipush (v := 112) dX12_read_79 rfl ?_
    refine JJ_bipush (v := 115) dX12_read_81 rfl ?_
    refine JJ_iconst (v := 0) dX12_read_83 rfl ?_
    refine JJ_iconst (v := 0) dX12_read_84 rfl ?_
    refine JJ_iconst (v := 0) dX12_read_85 rfl ?_
    refine JJ_callV (rest := [.ref o]) hR.1 rfl rfl (kp_steps (m := m) (i := i0) hp1.1 hp1.2.2.2.1 (hp1.2.1.symm ▸ hp1.2.2.2.2.2.2) hR hX) (by omega) mi_X12_isWord lk_X12_177 rfl (Nat.le_of_ble_eq_true rfl) rfl rfl dX12_read_86 ?_
    intro v26 μ27 h28
    obtain ⟨rfl, rfl⟩ := h28
    refine JJ_r1 ?_
    refine JJ_callV (rest := []) hR.1 rfl rfl (kp_part (key := 4) (i := i0) hB hp1 (by decide) (fun e => ((tok_key hp1.2.2.2.2.2.2 (by decide) (fun s e h => wkey_4 h) (by decide) (by decide)).1.mp e).1) (bw_z _) (by rw [hp1.2.1]) hlv hR hX) (by omega) mi_X12_part lk_X12_232 rfl (Nat.le_of_ble_eq_true rfl) rfl rfl dX12_read_89 ?_
    intro v29 μ30 h31
    obtain ⟨x1, Mp2, Lp2, rfl, rfl, hf2, hl2, hm2⟩ := h31
    refine JJ_r1 ?_
    rcases hg1 : gPart (TB o r M) m 4 i0 with q | ⟨c1x, d1, i1⟩
    · skip
      rw [hg1] at hm2
      obtain ⟨b29, b30⟩ : Mp2 o 29 = 1 ∧ Mp2 o 30 = nI q := hm2
      refine JJ_istore (lv' := [(4, .int x1), (3, .int x0), (0, .ref o), (1, .int (nI r)), (2, .int wi)]) dX12_read_92 (by decide) rfl ?_
      refine JJ_aload_n dX12_read_94 rfl rfl ?_
      refine JJ_geti (v := 1) (cis := [12]) (k := 29) fa_X12_157 (by decide) hR.1 rfl (hX.1 29) b29 dX12_read_95 ?_
      refine JJ_if_eq (tgt := 105) dX12_read_98 (by decide) (fun c32 => absurd c32 (by decide)) (fun _ => ?_)
      refine JJ_iconst (v := 0) dX12_read_101 rfl ?_
      refine JJ_goto (tgt := 126) dX12_read_102 (by decide) ?_
      refine JJ_istore (lv' := [(5, .int 0), (4, .int x1), (3, .int x0), (0, .ref o), (1, .int (nI r)), (2, .int wi)]) dX12_read_126 (by decide) rfl ?_
      refine JJ_aload_n dX12_read_128 rfl rfl ?_
      refine JJ_geti (v := 1) (cis := [12]) (k := 29) fa_X12_157 (by decide) hR.1 rfl (hX.1 29) b29 dX12_read_129 ?_
      refine JJ_if_ne (tgt := 146) dX12_read_132 (by decide) (fun _ => ?_) (fun c33 => absurd c33 (by decide))
      refine JJ_iload_n dX12_read_146 rfl rfl ?_
      refine JJ_if_ne (tgt := 154) dX12_read_147 (by decide) (fun c34 => ?_) (fun c34 => ?_)
      · skip
        refine JJ_iload_n dX12_read_154 rfl rfl ?_
        refine JJ_iconst (v := 1) dX12_read_155 rfl ?_
        refine JJ_icmp_ne (tgt := 164) dX12_read_156 (by decide) (fun c35 => ?_) (fun c35 => ?_)
        · skip
          refine JJ_iload dX12_read_164 rfl ?_
          refine JJ_iret dX12_read_166 rfl ?_
          exact ⟨_, Mp2, Lp2, rfl, rfl, (fun b k z => ((hf2 b k (fun q => z (pd_r q))).trans ((hf1 b k (fun q => z (pd_r q))).trans ((hfc b k (fun q => z (pd_r q))).trans (hk0 b k z))))), (fun b k z => ((hl2 b k z).trans ((hl1 b k z).trans (hlc b k z)))), by rw [gX_1 hg0 hg1]; exact ⟨b29, b30⟩⟩
        · skip
          refine JJ_iload dX12_read_159 rfl ?_
          refine JJ_goto (tgt := 166) dX12_read_161 (by decide) ?_
          refine JJ_iret dX12_read_166 rfl ?_
          exact ⟨_, Mp2, Lp2, rfl, rfl, (fun b k z => ((hf2 b k (fun q => z (pd_r q))).trans ((hf1 b k (fun q => z (pd_r q))).trans ((hfc b k (fun q => z (pd_r q))).trans (hk0 b k z))))), (fun b k z => ((hl2 b k z).trans ((hl1 b k z).trans (hlc b k z)))), by rw [gX_1 hg0 hg1]; exact ⟨b29, b30⟩⟩
      · skip
        refine JJ_iload_n dX12_read_150 rfl rfl ?_
        refine JJ_goto (tgt := 166) dX12_read_151 (by decide) ?_
        refine JJ_iret dX12_read_166 rfl ?_
        exact ⟨_, Mp2, Lp2, rfl, rfl, (fun b k z => ((hf2 b k (fun q => z (pd_r q))).trans ((hf1 b k (fun q => z (pd_r q))).trans ((hfc b k (fun q => z (pd_r q))).trans (hk0 b k z))))), (fun b k z => ((hl2 b k z).trans ((hl1 b k z).trans (hlc b k z)))), by rw [gX_1 hg0 hg1]; exact ⟨b29, b30⟩⟩
    · skip
      rw [hg1] at hm2
      obtain ⟨hx1, hij1, hp2⟩ : x1 = d1 nm ∧ i0 < i1 ∧ PST o r m (TB o r M) nm 5 i1 Mp2 Lp2 := hm2
      refine JJ_istore (lv' := [(4, .int x1), (3, .int x0), (0, .ref o), (1, .int (nI r)), (2, .int wi)]) dX12_read_92 (by decide) rfl ?_
      refine JJ_aload_n dX12_read_94 rfl rfl ?_
      refine JJ_geti (v := 0) (cis := [12]) (k := 29) fa_X12_157 (by decide) hR.1 rfl (hX.1 29) hp2.2.2.2.1 dX12_read_95 ?_
      refine JJ_if_eq (tgt := 105) dX12_read_98 (by decide) (fun _ => ?_) (fun c36 => absurd (by decide) c36)
      refine JJ_aload_n dX12_read_105 rfl rfl ?_
      refine JJ_aload_n dX12_read_106 rfl rfl ?_
      refine JJ_bipush (v := 115) dX12_read_107 rfl ?_
      refine JJ_bipush (v := 108) dX12_read_109 rfl ?_
      refine JJ_bipush (v := 105) dX12_read_111 rfl ?_
      refine JJ_bipush (v := 112) dX12_read_113 rfl ?_
      refine JJ_bipush (v := 115) dX12_read_115 rfl ?_
      refine JJ_iconst (v := 0) dX12_read_117 rfl ?_
      refine JJ_iconst (v := 0) dX12_read_118 rfl ?_
      refine JJ_iconst (v := 0) dX12_read_119 rfl ?_
      refine JJ_callV (rest := [.ref o]) hR.1 rfl rfl (kp_slips (m := m) (i := i1) hp2.1 hp2.2.2.2.1 (hp2.2.1.symm ▸ hp2.2.2.2.2.2.2) hR hX) (by omega) mi_X12_isWord lk_X12_177 rfl (Nat.le_of_ble_eq_true rfl) rfl rfl dX12_read_120 ?_
      intro v37 μ38 h39
      obtain ⟨rfl, rfl⟩ := h39
      refine JJ_r1 ?_
      refine JJ_callV (rest := []) hR.1 rfl rfl (kp_part (key := 5) (i := i1) hB hp2 (by decide) (fun e => ((tok_key hp2.2.2.2.2.2.2 (by decide) (fun s e h => wkey_5 h) (by decide) (by decide)).1.mp e).1) (bw_z _) (by rw [hp2.2.1]) hlv hR hX) (by omega) mi_X12_part lk_X12_232 rfl (Nat.le_of_ble_eq_true rfl) rfl rfl dX12_read_123 ?_
      intro v40 μ41 h42
      obtain ⟨x2, Mp3, Lp3, rfl, rfl, hf3, hl3, hm3⟩ := h42
      refine JJ_r1 ?_
      rcases hg2 : gPart (TB o r M) m 5 i1 with q | ⟨c2x, d2, i2⟩
      · skip
        rw [hg2] at hm3
        obtain ⟨b29, b30⟩ : Mp3 o 29 = 1 ∧ Mp3 o 30 = nI q := hm3
        refine JJ_istore (lv' := [(5, .int x2), (4, .int x1), (3, .int x0), (0, .ref o), (1, .int (nI r)), (2, .int wi)]) dX12_read_126 (by decide) rfl ?_
        refine JJ_aload_n dX12_read_128 rfl rfl ?_
        refine JJ_geti (v := 1) (cis := [12]) (k := 29) fa_X12_157 (by decide) hR.1 rfl (hX.1 29) b29 dX12_read_129 ?_
        refine JJ_if_ne (tgt := 146) dX12_read_132 (by decide) (fun _ => ?_) (fun c43 => absurd c43 (by decide))
        refine JJ_iload_n dX12_read_146 rfl rfl ?_
        refine JJ_if_ne (tgt := 154) dX12_read_147 (by decide) (fun c44 => ?_) (fun c44 => ?_)
        · skip
          refine JJ_iload_n dX12_read_154 rfl rfl ?_
          refine JJ_iconst (v := 1) dX12_read_155 rfl ?_
          refine JJ_icmp_ne (tgt := 164) dX12_read_156 (by decide) (fun c45 => ?_) (fun c45 => ?_)
          · skip
            refine JJ_iload dX12_read_164 rfl ?_
            refine JJ_iret dX12_read_166 rfl ?_
            exact ⟨_, Mp3, Lp3, rfl, rfl, (fun b k z => ((hf3 b k (fun q => z (pd_r q))).trans ((hf2 b k (fun q => z (pd_r q))).trans ((hf1 b k (fun q => z (pd_r q))).trans ((hfc b k (fun q => z (pd_r q))).trans (hk0 b k z)))))), (fun b k z => ((hl3 b k z).trans ((hl2 b k z).trans ((hl1 b k z).trans (hlc b k z))))), by rw [gX_2 hg0 hg1 hg2]; exact ⟨b29, b30⟩⟩
          · skip
            refine JJ_iload dX12_read_159 rfl ?_
            refine JJ_goto (tgt := 166) dX12_read_161 (by decide) ?_
            refine JJ_iret dX12_read_166 rfl ?_
            exact ⟨_, Mp3, Lp3, rfl, rfl, (fun b k z => ((hf3 b k (fun q => z (pd_r q))).trans ((hf2 b k (fun q => z (pd_r q))).trans ((hf1 b k (fun q => z (pd_r q))).trans ((hfc b k (fun q => z (pd_r q))).trans (hk0 b k z)))))), (fun b k z => ((hl3 b k z).trans ((hl2 b k z).trans ((hl1 b k z).trans (hlc b k z))))), by rw [gX_2 hg0 hg1 hg2]; exact ⟨b29, b30⟩⟩
        · skip
          refine JJ_iload_n dX12_read_150 rfl rfl ?_
          refine JJ_goto (tgt := 166) dX12_read_151 (by decide) ?_
          refine JJ_iret dX12_read_166 rfl ?_
          exact ⟨_, Mp3, Lp3, rfl, rfl, (fun b k z => ((hf3 b k (fun q => z (pd_r q))).trans ((hf2 b k (fun q => z (pd_r q))).trans ((hf1 b k (fun q => z (pd_r q))).trans ((hfc b k (fun q => z (pd_r q))).trans (hk0 b k z)))))), (fun b k z => ((hl3 b k z).trans ((hl2 b k z).trans ((hl1 b k z).trans (hlc b k z))))), by rw [gX_2 hg0 hg1 hg2]; exact ⟨b29, b30⟩⟩
      · skip
        rw [hg2] at hm3
        obtain ⟨hx2, hij2, hp3⟩ : x2 = d2 nm ∧ i1 < i2 ∧ PST o r m (TB o r M) nm 5 i2 Mp3 Lp3 := hm3
        refine JJ_istore (lv' := [(5, .int x2), (4, .int x1), (3, .int x0), (0, .ref o), (1, .int (nI r)), (2, .int wi)]) dX12_read_126 (by decide) rfl ?_
        refine JJ_aload_n dX12_read_128 rfl rfl ?_
        refine JJ_geti (v := 0) (cis := [12]) (k := 29) fa_X12_157 (by decide) hR.1 rfl (hX.1 29) hp3.2.2.2.1 dX12_read_129 ?_
        refine JJ_if_ne (tgt := 146) dX12_read_132 (by decide) (fun c46 => absurd (by decide) c46) (fun _ => ?_)
        refine JJ_aload_n dX12_read_135 rfl rfl ?_
        refine JJ_geti (v := Mp3 o 25) (cis := [12]) (k := 25) fa_X12_140 (by decide) hR.1 rfl (hX.1 25) rfl dX12_read_136 ?_
        refine JJ_if_eq (tgt := 146) dX12_read_139 (by decide) (fun c47 => ?_) (fun c47 => ?_)
        · skip
          refine JJ_iload_n dX12_read_146 rfl rfl ?_
          refine JJ_if_ne (tgt := 154) dX12_read_147 (by decide) (fun c48 => ?_) (fun c48 => ?_)
          · skip
            refine JJ_iload_n dX12_read_154 rfl rfl ?_
            refine JJ_iconst (v := 1) dX12_read_155 rfl ?_
            refine JJ_icmp_ne (tgt := 164) dX12_read_156 (by decide) (fun c49 => ?_) (fun c49 => ?_)
            · skip
              refine JJ_iload dX12_read_164 rfl ?_
              refine JJ_iret dX12_read_166 rfl ?_
              exact ⟨_, Mp3, Lp3, rfl, rfl, (fun b k z => ((hf3 b k (fun q => z (pd_r q))).trans ((hf2 b k (fun q => z (pd_r q))).trans ((hf1 b k (fun q => z (pd_r q))).trans ((hfc b k (fun q => z (pd_r q))).trans (hk0 b k z)))))), (fun b k z => ((hl3 b k z).trans ((hl2 b k z).trans ((hl1 b k z).trans (hlc b k z))))), by rw [gX_4 hg0 hg1 hg2 ((tks_end hp3.2.2.2.2.2.2).mp c47)]; exact ⟨hp3.2.2.2.1, by rw [rd_w2 hw c48 c49, hx2]; rfl⟩⟩
            · skip
              refine JJ_iload dX12_read_159 rfl ?_
              refine JJ_goto (tgt := 166) dX12_read_161 (by decide) ?_
              refine JJ_iret dX12_read_166 rfl ?_
              exact ⟨_, Mp3, Lp3, rfl, rfl, (fun b k z => ((hf3 b k (fun q => z (pd_r q))).trans ((hf2 b k (fun q => z (pd_r q))).trans ((hf1 b k (fun q => z (pd_r q))).trans ((hfc b k (fun q => z (pd_r q))).trans (hk0 b k z)))))), (fun b k z => ((hl3 b k z).trans ((hl2 b k z).trans ((hl1 b k z).trans (hlc b k z))))), by rw [gX_4 hg0 hg1 hg2 ((tks_end hp3.2.2.2.2.2.2).mp c47)]; exact ⟨hp3.2.2.2.1, by rw [rd_w1 hw c49, hx1]; rfl⟩⟩
          · skip
            refine JJ_iload_n dX12_read_150 rfl rfl ?_
            refine JJ_goto (tgt := 166) dX12_read_151 (by decide) ?_
            refine JJ_iret dX12_read_166 rfl ?_
            exact ⟨_, Mp3, Lp3, rfl, rfl, (fun b k z => ((hf3 b k (fun q => z (pd_r q))).trans ((hf2 b k (fun q => z (pd_r q))).trans ((hf1 b k (fun q => z (pd_r q))).trans ((hfc b k (fun q => z (pd_r q))).trans (hk0 b k z)))))), (fun b k z => ((hl3 b k z).trans ((hl2 b k z).trans ((hl1 b k z).trans (hlc b k z))))), by rw [gX_4 hg0 hg1 hg2 ((tks_end hp3.2.2.2.2.2.2).mp c47)]; exact ⟨hp3.2.2.2.1, by rw [rd_w0 hw c48, hx0]; rfl⟩⟩
        · skip
          refine JJ_aload_n dX12_read_142 rfl rfl ?_
          refine JJ_callV (rest := []) hR.1 rfl rfl (kp_fail0 hp3.2.2.2.1 hR hX) (by omega) mi_X12_fail lk_X12_171 rfl (Nat.le_of_ble_eq_true rfl) rfl rfl dX12_read_143 ?_
          intro v50 μ51 h52
          obtain ⟨rfl, rfl⟩ := h52
          refine JJ_r0 ?_
          refine JJ_iload_n dX12_read_146 rfl rfl ?_
          refine JJ_if_ne (tgt := 154) dX12_read_147 (by decide) (fun c53 => ?_) (fun c53 => ?_)
          · skip
            refine JJ_iload_n dX12_read_154 rfl rfl ?_
            refine JJ_iconst (v := 1) dX12_read_155 rfl ?_
            refine JJ_icmp_ne (tgt := 164) dX12_read_156 (by decide) (fun c54 => ?_) (fun c54 => ?_)
            · skip
              refine JJ_iload dX12_read_164 rfl ?_
              refine JJ_iret dX12_read_166 rfl ?_
              exact ⟨_, _, Lp3, rfl, rfl, fun b k z => (fl_n (fun q => z (pd_r q))).trans ((fun b k z => ((hf3 b k (fun q => z (pd_r q))).trans ((hf2 b k (fun q => z (pd_r q))).trans ((hf1 b k (fun q => z (pd_r q))).trans ((hfc b k (fun q => z (pd_r q))).trans (hk0 b k z)))))) b k z), (fun b k z => ((hl3 b k z).trans ((hl2 b k z).trans ((hl1 b k z).trans (hlc b k z))))), by rw [gX_3 hg0 hg1 hg2 (fun z => c47 ((tks_end hp3.2.2.2.2.2.2).mpr z)), tok_s]; exact ⟨(up2_n (by omega)).trans up2_s, up2_s.trans hp3.2.2.2.2.2.2.2.1⟩⟩
            · skip
              refine JJ_iload dX12_read_159 rfl ?_
              refine JJ_goto (tgt := 166) dX12_read_161 (by decide) ?_
              refine JJ_iret dX12_read_166 rfl ?_
              exact ⟨_, _, Lp3, rfl, rfl, fun b k z => (fl_n (fun q => z (pd_r q))).trans ((fun b k z => ((hf3 b k (fun q => z (pd_r q))).trans ((hf2 b k (fun q => z (pd_r q))).trans ((hf1 b k (fun q => z (pd_r q))).trans ((hfc b k (fun q => z (pd_r q))).trans (hk0 b k z)))))) b k z), (fun b k z => ((hl3 b k z).trans ((hl2 b k z).trans ((hl1 b k z).trans (hlc b k z))))), by rw [gX_3 hg0 hg1 hg2 (fun z => c47 ((tks_end hp3.2.2.2.2.2.2).mpr z)), tok_s]; exact ⟨(up2_n (by omega)).trans up2_s, up2_s.trans hp3.2.2.2.2.2.2.2.1⟩⟩
          · skip
            refine JJ_iload_n dX12_read_150 rfl rfl ?_
            refine JJ_goto (tgt := 166) dX12_read_151 (by decide) ?_
            refine JJ_iret dX12_read_166 rfl ?_
            exact ⟨_, _, Lp3, rfl, rfl, fun b k z => (fl_n (fun q => z (pd_r q))).trans ((fun b k z => ((hf3 b k (fun q => z (pd_r q))).trans ((hf2 b k (fun q => z (pd_r q))).trans ((hf1 b k (fun q => z (pd_r q))).trans ((hfc b k (fun q => z (pd_r q))).trans (hk0 b k z)))))) b k z), (fun b k z => ((hl3 b k z).trans ((hl2 b k z).trans ((hl1 b k z).trans (hlc b k z))))), by rw [gX_3 hg0 hg1 hg2 (fun z => c47 ((tks_end hp3.2.2.2.2.2.2).mpr z)), tok_s]; exact ⟨(up2_n (by omega)).trans up2_s, up2_s.trans hp3.2.2.2.2.2.2.2.1⟩⟩
set_option maxHeartbeats 4000000 in
set_option maxRecDepth 100000 in
theorem kp_says {w p : Nat} {wi far number cell : Int32} {E : RuleF} {cs : List Int32 × List Int32 × List Int32} {d0 d1 d2 : Nms → Int32} (hw : w < 3) (hwi : wi = nI w) (hp : p < 2) (hr : r < 6) (hm160 : m ≤ 160) (h4 : M o 4 = nI r) (hm : M (o + 2) r = nI m) (hB : ∀ i, i < m → 0 ≤ (TB o r M i).toInt ∧ (TB o r M i).toInt ≤ 255) (hg : gText (TB o r M) m = .inr (cs, d0, d1, d2)) (hE : E w far (M o 11) (M (o + 5) p) (M (o + 6) p) number cell = s3 w (d0 (nms far (M o 11) (M (o + 5) p) (M (o + 6) p) number cell)) (d1 (nms far (M o 11) (M (o + 5) p) (M (o + 6) p) number cell)) (d2 (nms far (M o 11) (M (o + 5) p) (M (o + 6) p) number cell))) (hR : RWF o S P) (hX : HX o sc) : KK G sc yX12_says cX12_says 6 (some .int) 60 0 0 [.ref o, .int wi, .int (nI p), .int far, .int number, .int cell] (n, S, M, L, P) (fun v μ => ∃ M' L', v = some (.int (s_within (E w far (M o 11) (M (o + 5) p) (M (o + 6) p) number cell) 0 (if w = 2 then 100 else 99))) ∧ μ = (n, S, M', L', P) ∧ (∀ b k, ¬ (b = o ∧ 16 ≤ k ∧ k ≤ 30) → M' b k = M b k) ∧ ∀ b k, ¬ (b = o ∧ k = 27) → L' b k = L b k) := by
  refine KK_of2 [(0, .ref o), (1, .int wi), (2, .int (nI p)), (3, .int far), (4, .int number), (5, .int cell)] (by decide +kernel) (Nat.le_of_ble_eq_true rfl) rfl ?_
  refine JJ_aload_n dX12_says_0 rfl rfl ?_
  refine JJ_iload_n dX12_says_1 rfl rfl ?_
  refine JJ_puti (cis := [12]) (k := 16) fa_X12_181 (by decide) hR.1 rfl (fun r hr => by cases hr; exact ⟨rfl, by decide +kernel⟩) dX12_says_2 (fun M1 hM2 => ?_)
  refine JJ_aload_n dX12_says_5 rfl rfl ?_
  refine JJ_aload_n dX12_says_6 rfl rfl ?_
  refine JJ_geti (v := M o 11) (cis := [12]) (k := 11) fa_X12_109 (by decide) hR.1 rfl (hX.1 11) (rd_n hM2 (by omega) rfl) dX12_says_7 ?_
  refine JJ_puti (cis := [12]) (k := 17) fa_X12_184 (by decide) hR.1 rfl (fun r hr => by cases hr; exact ⟨rfl, by decide +kernel⟩) dX12_says_10 (fun M3 hM4 => ?_)
  refine JJ_aload_n dX12_says_13 rfl rfl ?_
  refine JJ_aload_n dX12_says_14 rfl rfl ?_
  refine JJ_getr (q := o + 5) (cis := [12]) (k := 8) fa_X12_26 (by decide) hR.1 rfl (hR.2 (8, 5, 20, 2) (by decide)).1 dX12_says_15 ?_
  refine JJ_iload_n dX12_says_18 rfl rfl ?_
  refine JJ_ialdX (v := M (o + 5) p) (hR.2 (8, 5, 20, 2) (by decide)).2 (IX_nI (by omega) (by omega)) (hX.2 5 _ (by decide) (by decide)) (rd_n hM4 (by omega) (rd_n hM2 (by omega) rfl)) dX12_says_19 ?_
  refine JJ_puti (cis := [12]) (k := 18) fa_X12_187 (by decide) hR.1 rfl (fun r hr => by cases hr; exact ⟨rfl, by decide +kernel⟩) dX12_says_20 (fun M5 hM6 => ?_)
  refine JJ_aload_n dX12_says_23 rfl rfl ?_
  refine JJ_aload_n dX12_says_24 rfl rfl ?_
  refine JJ_getr (q := o + 6) (cis := [12]) (k := 9) fa_X12_29 (by decide) hR.1 rfl (hR.2 (9, 6, 20, 2) (by decide)).1 dX12_says_25 ?_
  refine JJ_iload_n dX12_says_28 rfl rfl ?_
  refine JJ_ialdX (v := M (o + 6) p) (hR.2 (9, 6, 20, 2) (by decide)).2 (IX_nI (by omega) (by omega)) (hX.2 6 _ (by decide) (by decide)) (rd_n hM6 (by omega) (rd_n hM4 (by omega) (rd_n hM2 (by omega) rfl))) dX12_says_29 ?_
  refine JJ_puti (cis := [12]) (k := 19) fa_X12_190 (by decide) hR.1 rfl (fun r hr => by cases hr; exact ⟨rfl, by decide +kernel⟩) dX12_says_30 (fun M7 hM8 => ?_)
  refine JJ_aload_n dX12_says_33 rfl rfl ?_
  refine JJ_iload dX12_says_34 rfl ?_
  refine JJ_puti (cis := [12]) (k := 20) fa_X12_193 (by decide) hR.1 rfl (fun r hr => by cases hr; exact ⟨rfl, by decide +kernel⟩) dX12_says_36 (fun M9 hM10 => ?_)
  refine JJ_aload_n dX12_says_39 rfl rfl ?_
  refine JJ_iload dX12_says_40 rfl ?_
  refine JJ_puti (cis := [12]) (k := 21) fa_X12_196 (by decide) hR.1 rfl (fun r hr => by cases hr; exact ⟨rfl, by decide +kernel⟩) dX12_says_42 (fun M11 hM12 => ?_)
  refine JJ_aload_n dX12_says_45 rfl rfl ?_
  refine JJ_aload_n dX12_says_46 rfl rfl ?_
  refine JJ_geti (v := nI r) (cis := [12]) (k := 4) fa_X12_239 (by decide) hR.1 rfl (hX.1 4) (rd_n hM12 (by omega) (rd_n hM10 (by omega) (rd_n hM8 (by omega) (rd_n hM6 (by omega) (rd_n hM4 (by omega) (rd_n hM2 (by omega) h4)))))) dX12_says_47 ?_
  refine JJ_iload_n dX12_says_50 rfl rfl ?_
  have hk0 : ∀ b k, ¬ (b = o ∧ 16 ≤ k ∧ k ≤ 30) → M11 b k = M b k := fun b k z => (rd_n hM12 (fun e => z (by omega)) (rd_n hM10 (fun e => z (by omega)) (rd_n hM8 (fun e => z (by omega)) (rd_n hM6 (fun e => z (by omega)) (rd_n hM4 (fun e => z (by omega)) (rd_n hM2 (fun e => z (by omega)) rfl))))))
  have hT0 : TB o r M11 = TB o r M := funext fun i => hk0 _ _ (by omega)
  have hn : ∀ k, k < 6 → M11 o (16 + k) = nms far (M o 11) (M (o + 5) p) (M (o + 6) p) number cell k := by
    intro k hk
    match k, hk with
    | 0, _ => exact (rd_n hM12 (by omega) (rd_n hM10 (by omega) (rd_n hM8 (by omega) (rd_n hM6 (by omega) (rd_n hM4 (by omega) (rd_s hM2))))))
    | 1, _ => exact (rd_n hM12 (by omega) (rd_n hM10 (by omega) (rd_n hM8 (by omega) (rd_n hM6 (by omega) (rd_s hM4)))))
    | 2, _ => exact (rd_n hM12 (by omega) (rd_n hM10 (by omega) (rd_n hM8 (by omega) (rd_s hM6))))
    | 3, _ => exact (rd_n hM12 (by omega) (rd_n hM10 (by omega) (rd_s hM8)))
    | 4, _ => exact (rd_n hM12 (by omega) (rd_s hM10))
    | 5, _ => exact (rd_s hM12)
  have hB0 : ∀ i, i < m → 0 ≤ (TB o r M11 i).toInt := fun i hi => by rw [hT0]; exact (hB i hi).1
  refine JJ_callV (rest := []) hR.1 rfl rfl (kp_read (M := M11) ⟨hw, hwi⟩ hr hm160 ((hk0 _ _ (by omega)).trans hm) hB0 hn hR hX) (by omega) mi_X12_read lk_X12_236 rfl (Nat.le_of_ble_eq_true rfl) rfl rfl dX12_says_51 ?_
  intro v13 μ14 h15
  obtain ⟨x, Md, Ld, rfl, rfl, hfd, hld, hmd⟩ := h15
  refine JJ_r1 ?_
  rw [hT0, hg] at hmd
  obtain ⟨-, hmd⟩ := hmd
  refine JJ_iconst (v := 0) dX12_says_54 rfl ?_
  refine JJ_iload_n dX12_says_55 rfl rfl ?_
  refine JJ_iconst (v := 2) dX12_says_56 rfl ?_
  refine JJ_icmp_ne (tgt := 65) dX12_says_57 (by decide) (fun c16 => ?_) (fun c16 => ?_)
  · skip
    refine JJ_bipush (v := 99) dX12_says_65 rfl ?_
    refine JJ_callS (rest := []) (kr_within) (by decide) mi_X12_within lk_X12_242 rfl (Nat.le_of_ble_eq_true rfl) rfl rfl dX12_says_67 ?_
    intro v17 μ18 h19
    obtain ⟨rfl, rfl⟩ := h19
    refine JJ_r1 ?_
    refine JJ_iret dX12_says_70 rfl ?_
    exact ⟨Md, Ld, by rw [hE, (if_neg (fun z => c16 (by rw [hwi, z]; rfl))), hmd], rfl, fun b k z => (hfd b k (fun q => z (by unfold PDR at q; omega))).trans (hk0 b k z), hld⟩
  · skip
    refine JJ_bipush (v := 100) dX12_says_60 rfl ?_
    refine JJ_goto (tgt := 67) dX12_says_62 (by decide) ?_
    refine JJ_callS (rest := []) (kr_within) (by decide) mi_X12_within lk_X12_242 rfl (Nat.le_of_ble_eq_true rfl) rfl rfl dX12_says_67 ?_
    intro v20 μ21 h22
    obtain ⟨rfl, rfl⟩ := h22
    refine JJ_r1 ?_
    refine JJ_iret dX12_says_70 rfl ?_
    exact ⟨Md, Ld, by rw [hE, (if_pos (by have := (nI_eq (a := w) (b := 2) (by omega) (by omega)).mp (hwi.symm.trans c16); exact this)), hmd], rfl, fun b k z => (hfd b k (fun q => z (by unfold PDR at q; omega))).trans (hk0 b k z), hld⟩
end RZ1
