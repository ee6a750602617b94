section REF4
variable {G : Gx} {sc : Nat → Nat → Prop} {n : Nat} {S : Nat → Nat × Nat} {M : Nat → Nat → Int32} {L : Nat → Nat → Int64} {P : Nat → Nat → Option Nat} {o : Nat}

theorem kr_goesOver2 {f t : Nat} {x y c0 : Int32} (hx : x = nI f) (hy : y = nI t) (hf : f < 25) (ht : t < 25) : KK G sc yX12_goesOver cX12_goesOver 6 (some .boolean) 0 0 0 [.int x, .int y, .int c0] (n, S, M, L, P) (fun v μ => (∃ r, v = some (.int r) ∧ (r = 0 ∨ r = 1) ∧ (r = 1 ↔ s_over f t c0)) ∧ μ = (n, S, M, L, P)) := by
  rw [hx, hy]
  exact kr_goesOver hf ht
set_option maxHeartbeats 4000000 in
set_option maxRecDepth 100000 in
theorem kr_rallies {s N : Nat} {E : RuleF} (hr : RLY o M s N) (hc : CVR o M) (hR : RWF o S P) (hN : HSR o sc) (hE : RTX o M E) : KK G sc yX12_rallies cX12_rallies 6 none 63 0 0 [.ref o, .int (nI s)] (n, S, M, L, P) (fun v μ => v = none ∧ ∃ M' L', μ = (n, S, M', L', P) ∧ INVR o M E s N M' L L' (a_fin o M E s N N 0).1 (sr_wins (a_fin o M E s N N 0))) := by
  refine KK_of2 [(0, .ref o), (1, .int (nI s))] (by decide +kernel) (Nat.le_of_ble_eq_true rfl) rfl ?_
  refine JJ_aload_n dX12_rallies_0 rfl rfl ?_
  refine JJ_iconst (v := (-1)) dX12_rallies_1 rfl ?_
  refine JJ_puti (cis := [12]) (k := 34) fa_X12_286 (by decide) hR.1 rfl (fun r hr => by cases hr; exact ⟨rfl, by decide +kernel⟩) dX12_rallies_2 (fun M1 hM2 => ?_)
  refine JJ_aload_n dX12_rallies_5 rfl rfl ?_
  refine JJ_iconst (v := 0) dX12_rallies_6 rfl ?_
  refine JJ_puti (cis := [12]) (k := 35) fa_X12_289 (by decide) hR.1 rfl (fun r hr => by cases hr; exact ⟨rfl, by decide +kernel⟩) dX12_rallies_7 (fun M3 hM4 => ?_)
  refine JJ_aload_n dX12_rallies_10 rfl rfl ?_
  refine JJ_ldc2 (v := 1000000000) dX12_rallies_11 tb_1270 ?_
  refine JJ_putl (cis := [12]) (k := 36) fa_X12_294 (by decide) hR.1 rfl (fun r hr => by cases hr; exact ⟨rfl, by decide +kernel⟩) dX12_rallies_14 (fun L5 hL6 => ?_)
  refine JJ_aload_n dX12_rallies_17 rfl rfl ?_
  refine JJ_iconst (v := (-1)) dX12_rallies_18 rfl ?_
  refine JJ_puti (cis := [12]) (k := 37) fa_X12_297 (by decide) hR.1 rfl (fun r hr => by cases hr; exact ⟨rfl, by decide +kernel⟩) dX12_rallies_19 (fun M7 hM8 => ?_)
  have key : ∀ (k j : Nat) (Ma : Nat → Nat → Int32) (La : Nat → Nat → Int64), j + k = N → a_fin o M E s N k j = a_fin o M E s N N 0 → INVR o M E s N Ma L La j (-1) → JJ G sc yX12_rallies cX12_rallies 6 none 63 0 0 (fun v μ => v = none ∧ ∃ M' L', μ = (n, S, M', L', P) ∧ INVR o M E s N M' L L' (a_fin o M E s N N 0).1 (sr_wins (a_fin o M E s N N 0))) 22 [(0, .ref o), (1, .int (nI s))] [] (n, S, Ma, La, P) := by
    intro k
    induction k with
    | zero =>
      intro j Ma La hjk hfin hinv
      obtain ⟨hof, hofL, hst, h34, h35, h36, h37, hbl⟩ := id hinv
      have hN40 := hr.2.1
      have hs4 := hr.1
      refine JJ_aload_n dX12_rallies_22 rfl rfl ?_
      refine JJ_geti (v := (-1)) (cis := [12]) (k := 34) fa_X12_286 (by decide) hR.1 rfl (hN.1 34 (by decide)) h34 dX12_rallies_23 ?_
      refine JJ_iconst (v := (-1)) dX12_rallies_26 rfl ?_
      refine JJ_icmp_ne (tgt := 179) dX12_rallies_27 (by decide) (fun c9 => absurd (by decide) c9) (fun _ => ?_)
      refine JJ_aload_n dX12_rallies_30 rfl rfl ?_
      refine JJ_geti (v := nI j) (cis := [12]) (k := 35) fa_X12_289 (by decide) hR.1 rfl (hN.1 35 (by decide)) h35 dX12_rallies_31 ?_
      refine JJ_aload_n dX12_rallies_34 rfl rfl ?_
      refine JJ_getr (q := o + 17) (cis := [12]) (k := 49) fa_X12_66 (by decide) hR.1 rfl (hR.2 (49, 17, 20, 4) (by decide)).1 dX12_rallies_35 ?_
      refine JJ_iload_n dX12_rallies_38 rfl rfl ?_
      refine JJ_ialdX (v := nI N) (hR.2 (49, 17, 20, 4) (by decide)).2 (IX_nI (by omega) (by omega)) (hN.2.1 17 _ (by decide) (by decide)) ((hof _ _ (by unfold RD; omega)).trans hr.2.2.1) dX12_rallies_39 ?_
      refine JJ_icmp_ge (tgt := 179) dX12_rallies_40 (by decide) (fun _ => ?_) (fun c10 => absurd (nI_le (by omega) (by omega)) c10)
      refine JJ_vret dX12_rallies_179 rfl ?_
      exact ⟨rfl, Ma, La, rfl, by rw [← hfin]; exact hinv⟩
    | succ k ih =>
      intro j Ma La hjk hfin hinv
      obtain ⟨hof, hofL, hst, h34, h35, h36, h37, hbl⟩ := id hinv
      have hN40 := hr.2.1
      have hs4 := hr.1
      have hjN : j < N := by omega
      obtain ⟨q, hq6, hq⟩ := hr.2.2.2 j hjN
      have hE1 : RTX o Ma E := hE.keep (RKEEP.a hof (by decide) (by decide) (by decide) (by decide)) (RKEEP.a hof (by decide) (by decide) (by decide) (by decide)) (RKEEP.m hof (by decide))
      have hcto := ral_cto (E := E) hc hr hjN
      have hcfe : Ma (o + 4) (1 - j % 2) = a_st o M E s N j (1 - j % 2) := by rw [← hst, rg0 (by omega)]
      have hcpe : Ma (o + 4) (j % 2) = a_st o M E s N j (j % 2) := by rw [← hst, rg0 (by omega)]
      have hcf : cv (Ma (o + 4) (1 - j % 2)) := by rw [hcfe]; exact lt2 (p := fun i => cv (a_st o M E s N j i)) (ral_cv hc hr j (by omega)).1 (ral_cv hc hr j (by omega)).2 _ (by omega)
      refine JJ_aload_n dX12_rallies_22 rfl rfl ?_
      refine JJ_geti (v := (-1)) (cis := [12]) (k := 34) fa_X12_286 (by decide) hR.1 rfl (hN.1 34 (by decide)) h34 dX12_rallies_23 ?_
      refine JJ_iconst (v := (-1)) dX12_rallies_26 rfl ?_
      refine JJ_icmp_ne (tgt := 179) dX12_rallies_27 (by decide) (fun c11 => absurd (by decide) c11) (fun _ => ?_)
      refine JJ_aload_n dX12_rallies_30 rfl rfl ?_
      refine JJ_geti (v := nI j) (cis := [12]) (k := 35) fa_X12_289 (by decide) hR.1 rfl (hN.1 35 (by decide)) h35 dX12_rallies_31 ?_
      refine JJ_aload_n dX12_rallies_34 rfl rfl ?_
      refine JJ_getr (q := o + 17) (cis := [12]) (k := 49) fa_X12_66 (by decide) hR.1 rfl (hR.2 (49, 17, 20, 4) (by decide)).1 dX12_rallies_35 ?_
      refine JJ_iload_n dX12_rallies_38 rfl rfl ?_
      refine JJ_ialdX (v := nI N) (hR.2 (49, 17, 20, 4) (by decide)).2 (IX_nI (by omega) (by omega)) (hN.2.1 17 _ (by decide) (by decide)) ((hof _ _ (by unfold RD; omega)).trans hr.2.2.1) dX12_rallies_39 ?_
      refine JJ_icmp_ge (tgt := 179) dX12_rallies_40 (by decide) (fun c12 => absurd c12 (nI_ge (by omega) (by omega))) (fun _ => ?_)
      refine JJ_aload_n dX12_rallies_43 rfl rfl ?_
      refine JJ_geti (v := nI j) (cis := [12]) (k := 35) fa_X12_289 (by decide) hR.1 rfl (hN.1 35 (by decide)) h35 dX12_rallies_44 ?_
      refine JJ_iconst (v := 2) dX12_rallies_47 rfl ?_
      refine JJ_irem dX12_rallies_48 (by decide) ?_
      refine JJ_eqi (x2 := nI (j % 2)) (pk_rem (a := j) (d := 2) (by omega) (by decide) (by decide)) ?_
      refine JJ_istore_n (lv' := [(2, .int (nI (j % 2))), (0, .ref o), (1, .int (nI s))]) dX12_rallies_49 rfl (by decide) rfl ?_
      refine JJ_aload_n dX12_rallies_50 rfl rfl ?_
      refine JJ_getr (q := o + 18) (cis := [12]) (k := 50) fa_X12_69 (by decide) hR.1 rfl (hR.2 (50, 18, 20, 160) (by decide)).1 dX12_rallies_51 ?_
      refine JJ_bipush (v := 40) dX12_rallies_54 rfl ?_
      refine JJ_iload_n dX12_rallies_56 rfl rfl ?_
      refine JJ_imul dX12_rallies_57 ?_
      refine JJ_eqi (x2 := nI (40 * s)) (pk_mul (40) (s)) ?_
      refine JJ_aload_n dX12_rallies_58 rfl rfl ?_
      refine JJ_geti (v := nI j) (cis := [12]) (k := 35) fa_X12_289 (by decide) hR.1 rfl (hN.1 35 (by decide)) h35 dX12_rallies_59 ?_
      refine JJ_iadd dX12_rallies_62 ?_
      refine JJ_eqi (x2 := nI (40 * s + j)) (nI_add (40 * s) (j)) ?_
      refine JJ_ialdX (v := nI q) (hR.2 (50, 18, 20, 160) (by decide)).2 (IX_nI (by omega) (by omega)) (hN.2.1 18 _ (by decide) (by decide)) ((hof _ _ (by unfold RD; omega)).trans hq) dX12_rallies_63 ?_
      refine JJ_istore_n (lv' := [(3, .int (nI q)), (2, .int (nI (j % 2))), (0, .ref o), (1, .int (nI s))]) dX12_rallies_64 rfl (by decide) rfl ?_
      refine JJ_aload_n dX12_rallies_65 rfl rfl ?_
      refine JJ_getr (q := o + 4) (cis := [12]) (k := 7) fa_X12_23 (by decide) hR.1 rfl (hR.2 (7, 4, 20, 2) (by decide)).1 dX12_rallies_66 ?_
      refine JJ_iload_n dX12_rallies_69 rfl rfl ?_
      refine JJ_ialdX (v := Ma (o + 4) (j % 2)) (hR.2 (7, 4, 20, 2) (by decide)).2 (IX_nI (by omega) (by omega)) (hN.2.1 4 _ (by decide) (by decide)) rfl dX12_rallies_70 ?_
      refine JJ_istore (lv' := [(4, .int (Ma (o + 4) (j % 2))), (3, .int (nI q)), (2, .int (nI (j % 2))), (0, .ref o), (1, .int (nI s))]) dX12_rallies_71 (by decide) rfl ?_
      refine JJ_aload_n dX12_rallies_73 rfl rfl ?_
      refine JJ_getr (q := o + 4) (cis := [12]) (k := 7) fa_X12_23 (by decide) hR.1 rfl (hR.2 (7, 4, 20, 2) (by decide)).1 dX12_rallies_74 ?_
      refine JJ_iconst (v := 1) dX12_rallies_77 rfl ?_
      refine JJ_iload_n dX12_rallies_78 rfl rfl ?_
      refine JJ_isub dX12_rallies_79 ?_
      refine JJ_eqi (x2 := nI (1 - j % 2)) (e_sub1 (by omega)) ?_
      refine JJ_ialdX (v := Ma (o + 4) (1 - j % 2)) (hR.2 (7, 4, 20, 2) (by decide)).2 (IX_nI (by omega) (by omega)) (hN.2.1 4 _ (by decide) (by decide)) rfl dX12_rallies_80 ?_
      refine JJ_istore (lv' := [(5, .int (Ma (o + 4) (1 - j % 2))), (4, .int (Ma (o + 4) (j % 2))), (3, .int (nI q)), (2, .int (nI (j % 2))), (0, .ref o), (1, .int (nI s))]) dX12_rallies_81 (by decide) rfl ?_
      refine JJ_aload_n dX12_rallies_83 rfl rfl ?_
      refine JJ_aload_n dX12_rallies_84 rfl rfl ?_
      refine JJ_getl (v := a_lk o M E s N j) (cis := [12]) (k := 36) fa_X12_294 (by decide) hR.1 rfl (hN.1 36 (by decide)) h36 dX12_rallies_85 ?_
      refine JJ_bipush (v := 100) dX12_rallies_88 rfl ?_
      refine JJ_aload_n dX12_rallies_90 rfl rfl ?_
      refine JJ_iload_n dX12_rallies_91 rfl rfl ?_
      refine JJ_iload_n dX12_rallies_92 rfl rfl ?_
      refine JJ_callV (rest := [.int 100, .long (a_lk o M E s N j), .ref o]) hR.1 rfl rfl (kr_slips (E := E) (k := q) (p := j % 2) (by omega) hq6 hR hN hE1) (by decide) mi_X12_slipsOf lk_X12_270 rfl (Nat.le_of_ble_eq_true rfl) rfl rfl dX12_rallies_93 ?_
      intro v13 μ14 h15
      obtain ⟨rfl, rfl⟩ := h15
      refine JJ_r1 ?_
      refine JJ_eqi (x2 := a_slip o M E s N j) (ral_slip hof hst hjN hq hq6) ?_
      refine JJ_isub dX12_rallies_96 ?_
      refine JJ_i2l dX12_rallies_97 ?_
      refine JJ_lmul dX12_rallies_98 ?_
      refine JJ_ldc2 (v := 100) dX12_rallies_99 tb_1271 ?_
      refine JJ_ldiv dX12_rallies_102 (by decide) ?_
      refine JJ_putl (cis := [12]) (k := 36) fa_X12_294 (by decide) hR.1 rfl (fun r hr => by cases hr; exact ⟨rfl, by decide +kernel⟩) dX12_rallies_103 (fun L16 hL17 => ?_)
      refine JJ_aload_n dX12_rallies_106 rfl rfl ?_
      refine JJ_iload_n dX12_rallies_107 rfl rfl ?_
      refine JJ_iload_n dX12_rallies_108 rfl rfl ?_
      refine JJ_callV (rest := []) hR.1 rfl rfl (kr_strikes (E := E) (k := q) (p := j % 2) (by omega) hq6 hR hN hE1) (by decide) mi_X12_strikes lk_X12_302 rfl (Nat.le_of_ble_eq_true rfl) rfl rfl dX12_rallies_109 ?_
      intro v18 μ19 h20
      obtain ⟨rfl, rfl⟩ := h20
      refine JJ_r1 ?_
      refine JJ_eqi (x2 := b2 (a_w o M E s N j)) (b2_c (ral_w hof hst hjN hq hq6)) ?_
      refine JJ_nm (fun Mb hMb => ?_)
      have hof2 := strk_off hMb
      have hct : Mb o 31 = a_to o M E s N j := (rd_s hMb).trans (ral_to hof hst hjN hq hq6)
      have hst2 := ral_st hof hst hjN hq hq6 hMb
      refine JJ_if_eq (tgt := 123) dX12_rallies_112 (by decide) (fun c21 => ?_) (fun c21 => ?_)
      · skip
        refine JJ_aload_n dX12_rallies_123 rfl rfl ?_
        refine JJ_geti (v := a_way o M E s N j) (cis := [12]) (k := 37) fa_X12_297 (by decide) hR.1 rfl (hN.1 37 (by decide)) ((hof2 _ _ (by omega) (by omega) (by omega)).trans h37) dX12_rallies_124 ?_
        refine JJ_iconst (v := (-1)) dX12_rallies_127 rfl ?_
        refine JJ_icmp_ne (tgt := 153) dX12_rallies_128 (by decide) (fun c22 => ?_) (fun c22 => ?_)
        · skip
          refine JJ_aload_n dX12_rallies_153 rfl rfl ?_
          refine JJ_getr (q := o + 12) (cis := [12]) (k := 38) fa_X12_47 (by decide) hR.1 rfl (hR.2 (38, 12, 20, 40) (by decide)).1 dX12_rallies_154 ?_
          refine JJ_aload_n dX12_rallies_157 rfl rfl ?_
          refine JJ_geti (v := nI j) (cis := [12]) (k := 35) fa_X12_289 (by decide) hR.1 rfl (hN.1 35 (by decide)) ((hof2 _ _ (by omega) (by omega) (by omega)).trans h35) dX12_rallies_158 ?_
          refine JJ_aload_n dX12_rallies_161 rfl rfl ?_
          refine JJ_geti (v := a_to o M E s N j) (cis := [12]) (k := 31) fa_X12_276 (by decide) hR.1 rfl (hN.1 31 (by decide)) hct dX12_rallies_162 ?_
          refine JJ_iastX (hR.2 (38, 12, 20, 40) (by decide)).2 (IX_nI (by omega) (by omega)) dX12_rallies_165 (fun M23 hM24 => ?_)
          refine JJ_aload_n dX12_rallies_166 rfl rfl ?_
          refine JJ_dup dX12_rallies_167 rfl ?_
          refine JJ_geti (v := nI j) (cis := [12]) (k := 35) fa_X12_289 (by decide) hR.1 rfl (hN.1 35 (by decide)) (rd_n hM24 (by omega) ((hof2 _ _ (by omega) (by omega) (by omega)).trans h35)) dX12_rallies_168 ?_
          refine JJ_iconst (v := 1) dX12_rallies_171 rfl ?_
          refine JJ_iadd dX12_rallies_172 ?_
          refine JJ_eqi (x2 := nI (j + 1)) (nI_add (j) (1)) ?_
          refine JJ_puti (cis := [12]) (k := 35) fa_X12_289 (by decide) hR.1 rfl (fun r hr => by cases hr; exact ⟨rfl, by decide +kernel⟩) dX12_rallies_173 (fun M25 hM26 => ?_)
          refine JJ_goto (tgt := 22) dX12_rallies_176 (by decide) ?_
          have hbl2 : ∀ i, i < j + 1 → M25 (o + 12) i = a_to o M E s N i := by
            intro i hi
            rcases Nat.lt_or_ge i j with z | z
            · refine rd_n hM26 (by omega) ?_; refine rd_n hM24 (by omega) ?_; exact (hof2 _ _ (by omega) (by omega) (by omega)).trans (hbl i z)
            · obtain rfl : i = j := by omega
              exact (rd_n hM26 (by omega) (rd_s hM24))
          refine JJ.pick [4, 5] rfl ?_
          exact ih (j + 1) _ _ (by omega) ((fin_f (b2_0.mp c21)).symm.trans hfin) ⟨fun b k z => by unfold RD at z; refine rd_n hM26 (by omega) ?_; refine rd_n hM24 (by omega) ?_; exact (hof2 b k (by omega) (by omega) (by omega)).trans (hof b k (by unfold RD; omega)), fun b k z => rd_n hL17 z (hofL b k z), (rGet_cong (fun i hi => by refine rd_n hM26 (by omega) ?_; refine rd_n hM24 (by omega) ?_; rfl) (fun i hi => by refine rd_n hM26 (by omega) ?_; refine rd_n hM24 (by omega) ?_; rfl) (by refine rd_n hM26 (by omega) ?_; refine rd_n hM24 (by omega) ?_; rfl)).trans hst2, (rd_n hM26 (by omega) (rd_n hM24 (by omega) ((hof2 _ _ (by omega) (by omega) (by omega)).trans h34))), (rd_s hM26), (rd_s hL17), (rd_n hM26 (by omega) (rd_n hM24 (by omega) ((hof2 _ _ (by omega) (by omega) (by omega)).trans h37))).trans ((way_s0 (Or.inr (Or.inl c22))).symm), hbl2⟩
        · skip
          refine JJ_iload dX12_rallies_131 rfl ?_
          refine JJ_aload_n dX12_rallies_133 rfl rfl ?_
          refine JJ_geti (v := a_to o M E s N j) (cis := [12]) (k := 31) fa_X12_276 (by decide) hR.1 rfl (hN.1 31 (by decide)) hct dX12_rallies_134 ?_
          refine JJ_iload dX12_rallies_137 rfl ?_
          obtain ⟨fo, hfo, efo⟩ := cv_nI hcf
          obtain ⟨to, hto, eto⟩ := cv_nI hcto
          refine JJ_callS (rest := []) (kr_goesOver2 (c0 := Ma (o + 4) (j % 2)) efo eto hfo hto) (by decide) mi_X12_goesOver lk_X12_305 rfl (Nat.le_of_ble_eq_true rfl) rfl rfl dX12_rallies_139 ?_
          intro v27 μ28 h29
          obtain ⟨⟨ro, rfl, hro, hrs⟩, rfl⟩ := h29
          refine JJ_r1 ?_
          refine JJ_if_eq (tgt := 153) dX12_rallies_142 (by decide) (fun c30 => ?_) (fun c30 => ?_)
          · skip
            refine JJ_aload_n dX12_rallies_153 rfl rfl ?_
            refine JJ_getr (q := o + 12) (cis := [12]) (k := 38) fa_X12_47 (by decide) hR.1 rfl (hR.2 (38, 12, 20, 40) (by decide)).1 dX12_rallies_154 ?_
            refine JJ_aload_n dX12_rallies_157 rfl rfl ?_
            refine JJ_geti (v := nI j) (cis := [12]) (k := 35) fa_X12_289 (by decide) hR.1 rfl (hN.1 35 (by decide)) ((hof2 _ _ (by omega) (by omega) (by omega)).trans h35) dX12_rallies_158 ?_
            refine JJ_aload_n dX12_rallies_161 rfl rfl ?_
            refine JJ_geti (v := a_to o M E s N j) (cis := [12]) (k := 31) fa_X12_276 (by decide) hR.1 rfl (hN.1 31 (by decide)) hct dX12_rallies_162 ?_
            refine JJ_iastX (hR.2 (38, 12, 20, 40) (by decide)).2 (IX_nI (by omega) (by omega)) dX12_rallies_165 (fun M31 hM32 => ?_)
            refine JJ_aload_n dX12_rallies_166 rfl rfl ?_
            refine JJ_dup dX12_rallies_167 rfl ?_
            refine JJ_geti (v := nI j) (cis := [12]) (k := 35) fa_X12_289 (by decide) hR.1 rfl (hN.1 35 (by decide)) (rd_n hM32 (by omega) ((hof2 _ _ (by omega) (by omega) (by omega)).trans h35)) dX12_rallies_168 ?_
            refine JJ_iconst (v := 1) dX12_rallies_171 rfl ?_
            refine JJ_iadd dX12_rallies_172 ?_
            refine JJ_eqi (x2 := nI (j + 1)) (nI_add (j) (1)) ?_
            refine JJ_puti (cis := [12]) (k := 35) fa_X12_289 (by decide) hR.1 rfl (fun r hr => by cases hr; exact ⟨rfl, by decide +kernel⟩) dX12_rallies_173 (fun M33 hM34 => ?_)
            refine JJ_goto (tgt := 22) dX12_rallies_176 (by decide) ?_
            have hbl2 : ∀ i, i < j + 1 → M33 (o + 12) i = a_to o M E s N i := by
              intro i hi
              rcases Nat.lt_or_ge i j with z | z
              · refine rd_n hM34 (by omega) ?_; refine rd_n hM32 (by omega) ?_; exact (hof2 _ _ (by omega) (by omega) (by omega)).trans (hbl i z)
              · obtain rfl : i = j := by omega
                exact (rd_n hM34 (by omega) (rd_s hM32))
            refine JJ.pick [4, 5] rfl ?_
            exact ih (j + 1) _ _ (by omega) ((fin_f (b2_0.mp c21)).symm.trans hfin) ⟨fun b k z => by unfold RD at z; refine rd_n hM34 (by omega) ?_; refine rd_n hM32 (by omega) ?_; exact (hof2 b k (by omega) (by omega) (by omega)).trans (hof b k (by unfold RD; omega)), fun b k z => rd_n hL17 z (hofL b k z), (rGet_cong (fun i hi => by refine rd_n hM34 (by omega) ?_; refine rd_n hM32 (by omega) ?_; rfl) (fun i hi => by refine rd_n hM34 (by omega) ?_; refine rd_n hM32 (by omega) ?_; rfl) (by refine rd_n hM34 (by omega) ?_; refine rd_n hM32 (by omega) ?_; rfl)).trans hst2, (rd_n hM34 (by omega) (rd_n hM32 (by omega) ((hof2 _ _ (by omega) (by omega) (by omega)).trans h34))), (rd_s hM34), (rd_s hL17), (rd_n hM34 (by omega) (rd_n hM32 (by omega) ((hof2 _ _ (by omega) (by omega) (by omega)).trans h37))).trans ((way_s0 (Or.inr (Or.inr ⟨fo, to, hcfe.symm.trans efo, eto, hfo, hto, fun z => absurd (hrs.mpr (hcpe ▸ z)) (by rw [c30]; decide)⟩))).symm), hbl2⟩
          · skip
            refine JJ_aload_n dX12_rallies_145 rfl rfl ?_
            refine JJ_aload_n dX12_rallies_146 rfl rfl ?_
            refine JJ_geti (v := nI j) (cis := [12]) (k := 35) fa_X12_289 (by decide) hR.1 rfl (hN.1 35 (by decide)) ((hof2 _ _ (by omega) (by omega) (by omega)).trans h35) dX12_rallies_147 ?_
            refine JJ_puti (cis := [12]) (k := 37) fa_X12_297 (by decide) hR.1 rfl (fun r hr => by cases hr; exact ⟨rfl, by decide +kernel⟩) dX12_rallies_150 (fun M35 hM36 => ?_)
            refine JJ_aload_n dX12_rallies_153 rfl rfl ?_
            refine JJ_getr (q := o + 12) (cis := [12]) (k := 38) fa_X12_47 (by decide) hR.1 rfl (hR.2 (38, 12, 20, 40) (by decide)).1 dX12_rallies_154 ?_
            refine JJ_aload_n dX12_rallies_157 rfl rfl ?_
            refine JJ_geti (v := nI j) (cis := [12]) (k := 35) fa_X12_289 (by decide) hR.1 rfl (hN.1 35 (by decide)) (rd_n hM36 (by omega) ((hof2 _ _ (by omega) (by omega) (by omega)).trans h35)) dX12_rallies_158 ?_
            refine JJ_aload_n dX12_rallies_161 rfl rfl ?_
            refine JJ_geti (v := a_to o M E s N j) (cis := [12]) (k := 31) fa_X12_276 (by decide) hR.1 rfl (hN.1 31 (by decide)) (rd_n hM36 (by omega) hct) dX12_rallies_162 ?_
            refine JJ_iastX (hR.2 (38, 12, 20, 40) (by decide)).2 (IX_nI (by omega) (by omega)) dX12_rallies_165 (fun M37 hM38 => ?_)
            refine JJ_aload_n dX12_rallies_166 rfl rfl ?_
            refine JJ_dup dX12_rallies_167 rfl ?_
            refine JJ_geti (v := nI j) (cis := [12]) (k := 35) fa_X12_289 (by decide) hR.1 rfl (hN.1 35 (by decide)) (rd_n hM38 (by omega) (rd_n hM36 (by omega) ((hof2 _ _ (by omega) (by omega) (by omega)).trans h35))) dX12_rallies_168 ?_
            refine JJ_iconst (v := 1) dX12_rallies_171 rfl ?_
            refine JJ_iadd dX12_rallies_172 ?_
            refine JJ_eqi (x2 := nI (j + 1)) (nI_add (j) (1)) ?_
            refine JJ_puti (cis := [12]) (k := 35) fa_X12_289 (by decide) hR.1 rfl (fun r hr => by cases hr; exact ⟨rfl, by decide +kernel⟩) dX12_rallies_173 (fun M39 hM40 => ?_)
            refine JJ_goto (tgt := 22) dX12_rallies_176 (by decide) ?_
            have hbl2 : ∀ i, i < j + 1 → M39 (o + 12) i = a_to o M E s N i := by
              intro i hi
              rcases Nat.lt_or_ge i j with z | z
              · refine rd_n hM40 (by omega) ?_; refine rd_n hM38 (by omega) ?_; refine rd_n hM36 (by omega) ?_; exact (hof2 _ _ (by omega) (by omega) (by omega)).trans (hbl i z)
              · obtain rfl : i = j := by omega
                exact (rd_n hM40 (by omega) (rd_s hM38))
            refine JJ.pick [4, 5] rfl ?_
            exact ih (j + 1) _ _ (by omega) ((fin_f (b2_0.mp c21)).symm.trans hfin) ⟨fun b k z => by unfold RD at z; refine rd_n hM40 (by omega) ?_; refine rd_n hM38 (by omega) ?_; refine rd_n hM36 (by omega) ?_; exact (hof2 b k (by omega) (by omega) (by omega)).trans (hof b k (by unfold RD; omega)), fun b k z => rd_n hL17 z (hofL b k z), (rGet_cong (fun i hi => by refine rd_n hM40 (by omega) ?_; refine rd_n hM38 (by omega) ?_; refine rd_n hM36 (by omega) ?_; rfl) (fun i hi => by refine rd_n hM40 (by omega) ?_; refine rd_n hM38 (by omega) ?_; refine rd_n hM36 (by omega) ?_; rfl) (by refine rd_n hM40 (by omega) ?_; refine rd_n hM38 (by omega) ?_; refine rd_n hM36 (by omega) ?_; rfl)).trans hst2, (rd_n hM40 (by omega) (rd_n hM38 (by omega) (rd_n hM36 (by omega) ((hof2 _ _ (by omega) (by omega) (by omega)).trans h34)))), (rd_s hM40), (rd_s hL17), (rd_n hM40 (by omega) (rd_n hM38 (by omega) (rd_s hM36))).trans ((way_s1 (b2_0.mp c21) c22 (hcfe.symm.trans efo) eto hfo hto (hcpe ▸ (hrs.mp (hro.resolve_left c30)))).symm), hbl2⟩
      · skip
        refine JJ_aload_n dX12_rallies_115 rfl rfl ?_
        refine JJ_iload_n dX12_rallies_116 rfl rfl ?_
        refine JJ_puti (cis := [12]) (k := 34) fa_X12_286 (by decide) hR.1 rfl (fun r hr => by cases hr; exact ⟨rfl, by decide +kernel⟩) dX12_rallies_117 (fun M41 hM42 => ?_)
        refine JJ_goto (tgt := 153) dX12_rallies_120 (by decide) ?_
        refine JJ_aload_n dX12_rallies_153 rfl rfl ?_
        refine JJ_getr (q := o + 12) (cis := [12]) (k := 38) fa_X12_47 (by decide) hR.1 rfl (hR.2 (38, 12, 20, 40) (by decide)).1 dX12_rallies_154 ?_
        refine JJ_aload_n dX12_rallies_157 rfl rfl ?_
        refine JJ_geti (v := nI j) (cis := [12]) (k := 35) fa_X12_289 (by decide) hR.1 rfl (hN.1 35 (by decide)) (rd_n hM42 (by omega) ((hof2 _ _ (by omega) (by omega) (by omega)).trans h35)) dX12_rallies_158 ?_
        refine JJ_aload_n dX12_rallies_161 rfl rfl ?_
        refine JJ_geti (v := a_to o M E s N j) (cis := [12]) (k := 31) fa_X12_276 (by decide) hR.1 rfl (hN.1 31 (by decide)) (rd_n hM42 (by omega) hct) dX12_rallies_162 ?_
        refine JJ_iastX (hR.2 (38, 12, 20, 40) (by decide)).2 (IX_nI (by omega) (by omega)) dX12_rallies_165 (fun M43 hM44 => ?_)
        refine JJ_aload_n dX12_rallies_166 rfl rfl ?_
        refine JJ_dup dX12_rallies_167 rfl ?_
        refine JJ_geti (v := nI j) (cis := [12]) (k := 35) fa_X12_289 (by decide) hR.1 rfl (hN.1 35 (by decide)) (rd_n hM44 (by omega) (rd_n hM42 (by omega) ((hof2 _ _ (by omega) (by omega) (by omega)).trans h35))) dX12_rallies_168 ?_
        refine JJ_iconst (v := 1) dX12_rallies_171 rfl ?_
        refine JJ_iadd dX12_rallies_172 ?_
        refine JJ_eqi (x2 := nI (j + 1)) (nI_add (j) (1)) ?_
        refine JJ_puti (cis := [12]) (k := 35) fa_X12_289 (by decide) hR.1 rfl (fun r hr => by cases hr; exact ⟨rfl, by decide +kernel⟩) dX12_rallies_173 (fun M45 hM46 => ?_)
        refine JJ_goto (tgt := 22) dX12_rallies_176 (by decide) ?_
        refine JJ_aload_n dX12_rallies_22 rfl rfl ?_
        refine JJ_geti (v := nI (j % 2)) (cis := [12]) (k := 34) fa_X12_286 (by decide) hR.1 rfl (hN.1 34 (by decide)) (rd_n hM46 (by omega) (rd_n hM44 (by omega) (rd_s hM42))) dX12_rallies_23 ?_
        refine JJ_iconst (v := (-1)) dX12_rallies_26 rfl ?_
        refine JJ_icmp_ne (tgt := 179) dX12_rallies_27 (by decide) (fun _ => ?_) (fun c47 => absurd c47 (nI_nm1 (by omega)))
        refine JJ_vret dX12_rallies_179 rfl ?_
        have hbl2 : ∀ i, i < j + 1 → M45 (o + 12) i = a_to o M E s N i := by
          intro i hi
          rcases Nat.lt_or_ge i j with z | z
          · refine rd_n hM46 (by omega) ?_; refine rd_n hM44 (by omega) ?_; refine rd_n hM42 (by omega) ?_; exact (hof2 _ _ (by omega) (by omega) (by omega)).trans (hbl i z)
          · obtain rfl : i = j := by omega
            exact (rd_n hM46 (by omega) (rd_s hM44))
        exact ⟨rfl, M45, L16, rfl, by rw [← hfin, fin_t (b2_n.mp c21)]; exact ⟨fun b k z => by unfold RD at z; refine rd_n hM46 (by omega) ?_; refine rd_n hM44 (by omega) ?_; refine rd_n hM42 (by omega) ?_; exact (hof2 b k (by omega) (by omega) (by omega)).trans (hof b k (by unfold RD; omega)), fun b k z => rd_n hL17 z (hofL b k z), (rGet_cong (fun i hi => by refine rd_n hM46 (by omega) ?_; refine rd_n hM44 (by omega) ?_; refine rd_n hM42 (by omega) ?_; rfl) (fun i hi => by refine rd_n hM46 (by omega) ?_; refine rd_n hM44 (by omega) ?_; refine rd_n hM42 (by omega) ?_; rfl) (by refine rd_n hM46 (by omega) ?_; refine rd_n hM44 (by omega) ?_; refine rd_n hM42 (by omega) ?_; rfl)).trans hst2, (rd_n hM46 (by omega) (rd_n hM44 (by omega) (rd_s hM42))), (rd_s hM46), (rd_s hL17), (rd_n hM46 (by omega) (rd_n hM44 (by omega) (rd_n hM42 (by omega) ((hof2 _ _ (by omega) (by omega) (by omega)).trans h37)))).trans ((way_s0 (Or.inl (b2_n.mp c21))).symm), hbl2⟩⟩
  exact key N 0 M7 L5 (by omega) rfl ⟨fun b k z => by unfold RD at z; refine rd_n hM8 (by omega) ?_; refine rd_n hM4 (by omega) ?_; refine rd_n hM2 (by omega) ?_; rfl, fun b k z => rd_n hL6 z rfl, rGet_cong (fun i hi => by refine rd_n hM8 (by omega) ?_; refine rd_n hM4 (by omega) ?_; refine rd_n hM2 (by omega) ?_; rfl) (fun i hi => by refine rd_n hM8 (by omega) ?_; refine rd_n hM4 (by omega) ?_; refine rd_n hM2 (by omega) ?_; rfl) (by refine rd_n hM8 (by omega) ?_; refine rd_n hM4 (by omega) ?_; refine rd_n hM2 (by omega) ?_; rfl), (rd_n hM8 (by omega) (rd_n hM4 (by omega) (rd_s hM2))), (rd_n hM8 (by omega) (rd_s hM4)), (rd_s hL6), (rd_s hM8), fun i hi => absurd hi (Nat.not_lt_zero i)⟩
end REF4
