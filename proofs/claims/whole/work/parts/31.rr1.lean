section RR1
variable {G : Gx} {sc : Nat → Nat → Prop} {n : Nat} {S : Nat → Nat × Nat} {M : Nat → Nat → Int32} {L : Nat → Nat → Int64} {P : Nat → Nat → Option Nat} {o : Nat}

set_option maxHeartbeats 4000000 in
set_option maxRecDepth 100000 in
theorem kp_isSign {m i : Nat} {b : Nat → Int32} {c : Int32} (hb : M o 29 = 0) (ht : TKS o b m i M L) (hc : isSg c) (hR : RWF o S P) (hX : HX o sc) : KK G sc yX12_isSign cX12_isSign 2 (some .boolean) 0 0 0 [.ref o, .int c] (n, S, M, L, P) (ansI (b2 ((tok b m i).1 = c)) (n, S, M, L, P)) := by
  refine KK_of2 [(0, .ref o), (1, .int c)] (by decide +kernel) (Nat.le_of_ble_eq_true rfl) rfl ?_
  refine JJ_aload_n dX12_isSign_0 rfl rfl ?_
  refine JJ_geti (v := 0) (cis := [12]) (k := 29) fa_X12_157 (by decide) hR.1 rfl (hX.1 29) hb dX12_isSign_1 ?_
  refine JJ_if_ne (tgt := 29) dX12_isSign_4 (by decide) (fun c1 => absurd (by decide) c1) (fun _ => ?_)
  refine JJ_aload_n dX12_isSign_7 rfl rfl ?_
  refine JJ_geti (v := M o 25) (cis := [12]) (k := 25) fa_X12_140 (by decide) hR.1 rfl (hX.1 25) rfl dX12_isSign_8 ?_
  refine JJ_iconst (v := 3) dX12_isSign_11 rfl ?_
  refine JJ_icmp_ne (tgt := 29) dX12_isSign_12 (by decide) (fun c2 => ?_) (fun c2 => ?_)
  · skip
    refine JJ_iconst (v := 0) dX12_isSign_29 rfl ?_
    refine JJ_zret dX12_isSign_30 rfl (Or.inl rfl) ?_
    exact ans_i (b2_f ((tks_sg ht).2 c2 _ hc)).symm
  · skip
    refine JJ_aload_n dX12_isSign_15 rfl rfl ?_
    refine JJ_getl (v := L o 27) (cis := [12]) (k := 27) fa_X12_151 (by decide) hR.1 rfl (hX.1 27) rfl dX12_isSign_16 ?_
    refine JJ_iload_n dX12_isSign_19 rfl rfl ?_
    refine JJ_i2l dX12_isSign_20 ?_
    refine JJ_lcmp dX12_isSign_21 ?_
    refine JJ_if_ne (tgt := 29) dX12_isSign_22 (by decide) (fun c3 => ?_) (fun c3 => ?_)
    · skip
      refine JJ_iconst (v := 0) dX12_isSign_29 rfl ?_
      refine JJ_zret dX12_isSign_30 rfl (Or.inl rfl) ?_
      have q := (tks_sg ht).1 c2
      exact ans_i (b2_f (fun e => c3 (lcmp_eq.mpr (by rw [q.2.1, ← q.1, e])))).symm
    · skip
      refine JJ_iconst (v := 1) dX12_isSign_25 rfl ?_
      refine JJ_goto (tgt := 30) dX12_isSign_26 (by decide) ?_
      refine JJ_zret dX12_isSign_30 rfl (Or.inr rfl) ?_
      have q := (tks_sg ht).1 c2
      exact ans_i (b2_t (q.1.trans (wide_inj (q.2.1.symm.trans (lcmp_eq.mp c3))))).symm
set_option maxHeartbeats 4000000 in
set_option maxRecDepth 100000 in
theorem kp_isSign1 {c : Int32} (hb : M o 29 = 1) (hR : RWF o S P) (hX : HX o sc) : KK G sc yX12_isSign cX12_isSign 2 (some .boolean) 0 0 0 [.ref o, .int c] (n, S, M, L, P) (ansI 0 (n, S, M, L, P)) := by
  refine KK_of2 [(0, .ref o), (1, .int c)] (by decide +kernel) (Nat.le_of_ble_eq_true rfl) rfl ?_
  refine JJ_aload_n dX12_isSign_0 rfl rfl ?_
  refine JJ_geti (v := 1) (cis := [12]) (k := 29) fa_X12_157 (by decide) hR.1 rfl (hX.1 29) hb dX12_isSign_1 ?_
  refine JJ_if_ne (tgt := 29) dX12_isSign_4 (by decide) (fun _ => ?_) (fun c1 => absurd c1 (by decide))
  refine JJ_iconst (v := 0) dX12_isSign_29 rfl ?_
  refine JJ_zret dX12_isSign_30 rfl (Or.inl rfl) ?_
  exact ans_i rfl
set_option maxHeartbeats 4000000 in
set_option maxRecDepth 100000 in
theorem kp_isWord1 {a0 a1 a2 a3 a4 a5 a6 a7 : Int32} (hb : M o 29 = 1) (hR : RWF o S P) (hX : HX o sc) : KK G sc yX12_isWord cX12_isWord 9 (some .boolean) 3 0 0 [.ref o, .int a0, .int a1, .int a2, .int a3, .int a4, .int a5, .int a6, .int a7] (n, S, M, L, P) (ansI 0 (n, S, M, L, P)) := by
  refine KK_of2 [(0, .ref o), (1, .int a0), (2, .int a1), (3, .int a2), (4, .int a3), (5, .int a4), (6, .int a5), (7, .int a6), (8, .int a7)] (by decide +kernel) (Nat.le_of_ble_eq_true rfl) rfl ?_
  refine JJ_aload_n dX12_isWord_0 rfl rfl ?_
  refine JJ_geti (v := 1) (cis := [12]) (k := 29) fa_X12_157 (by decide) hR.1 rfl (hX.1 29) hb dX12_isWord_1 ?_
  refine JJ_if_ne (tgt := 112) dX12_isWord_4 (by decide) (fun _ => ?_) (fun c1 => absurd c1 (by decide))
  refine JJ_iconst (v := 0) dX12_isWord_112 rfl ?_
  refine JJ_zret dX12_isWord_113 rfl (Or.inl rfl) ?_
  exact ans_i rfl
theorem tks_wd {b : Nat → Int32} {m i : Nat} (h : TKS o b m i M L) (h1 : M o 25 = 1) : M o 24 = nI (skL b m (skB b m i)) ∧ M o 26 = nI (skB b m i) ∧ skB b m i < m ∧ isLt (b (skB b m i)) ∧ skL b m (skB b m i) ≤ m := by
  obtain ⟨h0, h26, h⟩ := h
  rcases h with ⟨h1', h2⟩ | ⟨h1', h2, h3, h4⟩ | ⟨h1', h2, h3, h4, h5, h6⟩ | ⟨h1', h2, h3, h4⟩ | ⟨h1', h2, h3, h4, h5⟩ | ⟨h1', h2, h3, h4, h5⟩
  · exact absurd (h2.symm.trans h1) (by decide)
  · exact ⟨h4, h26, h1', h2, run_le h0⟩
  · exact absurd (h4.symm.trans h1) (by decide)
  · exact absurd (h4.symm.trans h1) (by decide)
  · exact absurd (h3.symm.trans h1) (by decide)
  · exact absurd (h5.symm.trans h1) (by decide)
def l8 (a0 a1 a2 a3 a4 a5 a6 a7 : Int32) : Nat → Int32
  | 0 => a0
  | 1 => a1
  | 2 => a2
  | 3 => a3
  | 4 => a4
  | 5 => a5
  | 6 => a6
  | _ => a7
set_option maxHeartbeats 4000000 in
set_option maxRecDepth 100000 in
theorem kp_isWord {r m i : Nat} {a0 a1 a2 a3 a4 a5 a6 a7 : Int32} (hg : RDG o r m M) (hb : M o 29 = 0) (ht : TKS o (TB o r M) m i M L) (hR : RWF o S P) (hX : HX o sc) : KK G sc yX12_isWord cX12_isWord 9 (some .boolean) 3 0 0 [.ref o, .int a0, .int a1, .int a2, .int a3, .int a4, .int a5, .int a6, .int a7] (n, S, M, L, P) (ansI (bw (M o 25 = 1 ∧ skL (TB o r M) m (skB (TB o r M) m i) ≤ skB (TB o r M) m i + 8 ∧ ∀ k, k < 8 → (if skB (TB o r M) m i + k < skL (TB o r M) m (skB (TB o r M) m i) then bt (TB o r M) m (skB (TB o r M) m i + k) = l8 a0 a1 a2 a3 a4 a5 a6 a7 k else l8 a0 a1 a2 a3 a4 a5 a6 a7 k = 0))) (n, S, M, L, P)) := by
  refine KK_of2 [(0, .ref o), (1, .int a0), (2, .int a1), (3, .int a2), (4, .int a3), (5, .int a4), (6, .int a5), (7, .int a6), (8, .int a7)] (by decide +kernel) (Nat.le_of_ble_eq_true rfl) rfl ?_
  refine JJ_aload_n dX12_isWord_0 rfl rfl ?_
  refine JJ_geti (v := 0) (cis := [12]) (k := 29) fa_X12_157 (by decide) hR.1 rfl (hX.1 29) hb dX12_isWord_1 ?_
  refine JJ_if_ne (tgt := 112) dX12_isWord_4 (by decide) (fun c1 => absurd (by decide) c1) (fun _ => ?_)
  refine JJ_aload_n dX12_isWord_7 rfl rfl ?_
  refine JJ_geti (v := M o 25) (cis := [12]) (k := 25) fa_X12_140 (by decide) hR.1 rfl (hX.1 25) rfl dX12_isWord_8 ?_
  refine JJ_iconst (v := 1) dX12_isWord_11 rfl ?_
  refine JJ_icmp_ne (tgt := 112) dX12_isWord_12 (by decide) (fun c2 => ?_) (fun c2 => ?_)
  · skip
    refine JJ_iconst (v := 0) dX12_isWord_112 rfl ?_
    refine JJ_zret dX12_isWord_113 rfl (Or.inl rfl) ?_
    exact ans_i (bw_f (fun z => c2 z.1)).symm
  · skip
    have hw := tks_wd ht c2
    have hm := hg.2.1
    obtain ⟨hw24, hw26, hlt, hsl, hem⟩ := hw
    have hw : M o 26 = nI (skB (TB o r M) m i) ∧ M o 24 = nI (skL (TB o r M) m (skB (TB o r M) m i)) ∧ True := ⟨hw26, hw24, trivial⟩
    refine JJ_aload_n dX12_isWord_15 rfl rfl ?_
    refine JJ_geti (v := nI (skL (TB o r M) m (skB (TB o r M) m i))) (cis := [12]) (k := 24) fa_X12_130 (by decide) hR.1 rfl (hX.1 24) hw24 dX12_isWord_16 ?_
    refine JJ_aload_n dX12_isWord_19 rfl rfl ?_
    refine JJ_geti (v := nI (skB (TB o r M) m i)) (cis := [12]) (k := 26) fa_X12_137 (by decide) hR.1 rfl (hX.1 26) hw26 dX12_isWord_20 ?_
    refine JJ_bipush (v := 8) dX12_isWord_23 rfl ?_
    refine JJ_iadd dX12_isWord_25 ?_
    refine JJ_eqi (x2 := nI (skB (TB o r M) m i + 8)) (nI_add (skB (TB o r M) m i) (8)) ?_
    refine JJ_icmp_gt (tgt := 112) dX12_isWord_26 (by decide) (fun c3 => ?_) (fun c3 => ?_)
    · skip
      refine JJ_iconst (v := 0) dX12_isWord_112 rfl ?_
      refine JJ_zret dX12_isWord_113 rfl (Or.inl rfl) ?_
      exact ans_i (bw_f (fun z => Int32.not_le.mpr c3 ((nI_leI (by omega) (by omega)).mpr z.2.1))).symm
    · skip
      refine JJ_aload_n dX12_isWord_29 rfl rfl ?_
      refine JJ_iconst (v := 0) dX12_isWord_30 rfl ?_
      refine JJ_iload_n dX12_isWord_31 rfl rfl ?_
      refine JJ_callV (rest := []) hR.1 rfl rfl (kp_isLetter (i := 0) (s := skB (TB o r M) m i) (e := skL (TB o r M) m (skB (TB o r M) m i)) (l := a0) hg (by decide) (by omega) (by omega) hw.1 hw.2.1 hR hX) (by decide) mi_X12_isLetter lk_X12_164 rfl (Nat.le_of_ble_eq_true rfl) rfl rfl dX12_isWord_32 ?_
      intro v4 μ5 h6
      obtain ⟨rfl, rfl⟩ := h6
      refine JJ_r1 ?_
      refine JJ_if_eq (tgt := 112) dX12_isWord_35 (by decide) (fun c7 => ?_) (fun c7 => ?_)
      · skip
        refine JJ_iconst (v := 0) dX12_isWord_112 rfl ?_
        refine JJ_zret dX12_isWord_113 rfl (Or.inl rfl) ?_
        exact ans_i (bw_f (fun z => b2_0.mp c7 (z.2.2 0 (by decide)))).symm
      · skip
        refine JJ_aload_n dX12_isWord_38 rfl rfl ?_
        refine JJ_iconst (v := 1) dX12_isWord_39 rfl ?_
        refine JJ_iload_n dX12_isWord_40 rfl rfl ?_
        refine JJ_callV (rest := []) hR.1 rfl rfl (kp_isLetter (i := 1) (s := skB (TB o r M) m i) (e := skL (TB o r M) m (skB (TB o r M) m i)) (l := a1) hg (by decide) (by omega) (by omega) hw.1 hw.2.1 hR hX) (by decide) mi_X12_isLetter lk_X12_164 rfl (Nat.le_of_ble_eq_true rfl) rfl rfl dX12_isWord_41 ?_
        intro v8 μ9 h10
        obtain ⟨rfl, rfl⟩ := h10
        refine JJ_r1 ?_
        refine JJ_if_eq (tgt := 112) dX12_isWord_44 (by decide) (fun c11 => ?_) (fun c11 => ?_)
        · skip
          refine JJ_iconst (v := 0) dX12_isWord_112 rfl ?_
          refine JJ_zret dX12_isWord_113 rfl (Or.inl rfl) ?_
          exact ans_i (bw_f (fun z => b2_0.mp c11 (z.2.2 1 (by decide)))).symm
        · skip
          refine JJ_aload_n dX12_isWord_47 rfl rfl ?_
          refine JJ_iconst (v := 2) dX12_isWord_48 rfl ?_
          refine JJ_iload_n dX12_isWord_49 rfl rfl ?_
          refine JJ_callV (rest := []) hR.1 rfl rfl (kp_isLetter (i := 2) (s := skB (TB o r M) m i) (e := skL (TB o r M) m (skB (TB o r M) m i)) (l := a2) hg (by decide) (by omega) (by omega) hw.1 hw.2.1 hR hX) (by decide) mi_X12_isLetter lk_X12_164 rfl (Nat.le_of_ble_eq_true rfl) rfl rfl dX12_isWord_50 ?_
          intro v12 μ13 h14
          obtain ⟨rfl, rfl⟩ := h14
          refine JJ_r1 ?_
          refine JJ_if_eq (tgt := 112) dX12_isWord_53 (by decide) (fun c15 => ?_) (fun c15 => ?_)
          · skip
            refine JJ_iconst (v := 0) dX12_isWord_112 rfl ?_
            refine JJ_zret dX12_isWord_113 rfl (Or.inl rfl) ?_
            exact ans_i (bw_f (fun z => b2_0.mp c15 (z.2.2 2 (by decide)))).symm
          · skip
            refine JJ_aload_n dX12_isWord_56 rfl rfl ?_
            refine JJ_iconst (v := 3) dX12_isWord_57 rfl ?_
            refine JJ_iload dX12_isWord_58 rfl ?_
            refine JJ_callV (rest := []) hR.1 rfl rfl (kp_isLetter (i := 3) (s := skB (TB o r M) m i) (e := skL (TB o r M) m (skB (TB o r M) m i)) (l := a3) hg (by decide) (by omega) (by omega) hw.1 hw.2.1 hR hX) (by decide) mi_X12_isLetter lk_X12_164 rfl (Nat.le_of_ble_eq_true rfl) rfl rfl dX12_isWord_60 ?_
            intro v16 μ17 h18
            obtain ⟨rfl, rfl⟩ := h18
            refine JJ_r1 ?_
            refine JJ_if_eq (tgt := 112) dX12_isWord_63 (by decide) (fun c19 => ?_) (fun c19 => ?_)
            · skip
              refine JJ_iconst (v := 0) dX12_isWord_112 rfl ?_
              refine JJ_zret dX12_isWord_113 rfl (Or.inl rfl) ?_
              exact ans_i (bw_f (fun z => b2_0.mp c19 (z.2.2 3 (by decide)))).symm
            · skip
              refine JJ_aload_n dX12_isWord_66 rfl rfl ?_
              refine JJ_iconst (v := 4) dX12_isWord_67 rfl ?_
              refine JJ_iload dX12_isWord_68 rfl ?_
              refine JJ_callV (rest := []) hR.1 rfl rfl (kp_isLetter (i := 4) (s := skB (TB o r M) m i) (e := skL (TB o r M) m (skB (TB o r M) m i)) (l := a4) hg (by decide) (by omega) (by omega) hw.1 hw.2.1 hR hX) (by decide) mi_X12_isLetter lk_X12_164 rfl (Nat.le_of_ble_eq_true rfl) rfl rfl dX12_isWord_70 ?_
              intro v20 μ21 h22
              obtain ⟨rfl, rfl⟩ := h22
              refine JJ_r1 ?_
              refine JJ_if_eq (tgt := 112) dX12_isWord_73 (by decide) (fun c23 => ?_) (fun c23 => ?_)
              · skip
                refine JJ_iconst (v := 0) dX12_isWord_112 rfl ?_
                refine JJ_zret dX12_isWord_113 rfl (Or.inl rfl) ?_
                exact ans_i (bw_f (fun z => b2_0.mp c23 (z.2.2 4 (by decide)))).symm
              · skip
                refine JJ_aload_n dX12_isWord_76 rfl rfl ?_
                refine JJ_iconst (v := 5) dX12_isWord_77 rfl ?_
                refine JJ_iload dX12_isWord_78 rfl ?_
                refine JJ_callV (rest := []) hR.1 rfl rfl (kp_isLetter (i := 5) (s := skB (TB o r M) m i) (e := skL (TB o r M) m (skB (TB o r M) m i)) (l := a5) hg (by decide) (by omega) (by omega) hw.1 hw.2.1 hR hX) (by decide) mi_X12_isLetter lk_X12_164 rfl (Nat.le_of_ble_eq_true rfl) rfl rfl dX12_isWord_80 ?_
                intro v24 μ25 h26
                obtain ⟨rfl, rfl⟩ := h26
                refine JJ_r1 ?_
                refine JJ_if_eq (tgt := 112) dX12_isWord_83 (by decide) (fun c27 => ?_) (fun c27 => ?_)
                · skip
                  refine JJ_iconst (v := 0) dX12_isWord_112 rfl ?_
                  refine JJ_zret dX12_isWord_113 rfl (Or.inl rfl) ?_
                  exact ans_i (bw_f (fun z => b2_0.mp c27 (z.2.2 5 (by decide)))).symm
                · skip
                  refine JJ_aload_n dX12_isWord_86 rfl rfl ?_
                  refine JJ_bipush (v := 6) dX12_isWord_87 rfl ?_
                  refine JJ_iload dX12_isWord_89 rfl ?_
                  refine JJ_callV (rest := []) hR.1 rfl rfl (kp_isLetter (i := 6) (s := skB (TB o r M) m i) (e := skL (TB o r M) m (skB (TB o r M) m i)) (l := a6) hg (by decide) (by omega) (by omega) hw.1 hw.2.1 hR hX) (by decide) mi_X12_isLetter lk_X12_164 rfl (Nat.le_of_ble_eq_true rfl) rfl rfl dX12_isWord_91 ?_
                  intro v28 μ29 h30
                  obtain ⟨rfl, rfl⟩ := h30
                  refine JJ_r1 ?_
                  refine JJ_if_eq (tgt := 112) dX12_isWord_94 (by decide) (fun c31 => ?_) (fun c31 => ?_)
                  · skip
                    refine JJ_iconst (v := 0) dX12_isWord_112 rfl ?_
                    refine JJ_zret dX12_isWord_113 rfl (Or.inl rfl) ?_
                    exact ans_i (bw_f (fun z => b2_0.mp c31 (z.2.2 6 (by decide)))).symm
                  · skip
                    refine JJ_aload_n dX12_isWord_97 rfl rfl ?_
                    refine JJ_bipush (v := 7) dX12_isWord_98 rfl ?_
                    refine JJ_iload dX12_isWord_100 rfl ?_
                    refine JJ_callV (rest := []) hR.1 rfl rfl (kp_isLetter (i := 7) (s := skB (TB o r M) m i) (e := skL (TB o r M) m (skB (TB o r M) m i)) (l := a7) hg (by decide) (by omega) (by omega) hw.1 hw.2.1 hR hX) (by decide) mi_X12_isLetter lk_X12_164 rfl (Nat.le_of_ble_eq_true rfl) rfl rfl dX12_isWord_102 ?_
                    intro v32 μ33 h34
                    obtain ⟨rfl, rfl⟩ := h34
                    refine JJ_r1 ?_
                    refine JJ_if_eq (tgt := 112) dX12_isWord_105 (by decide) (fun c35 => ?_) (fun c35 => ?_)
                    · skip
                      refine JJ_iconst (v := 0) dX12_isWord_112 rfl ?_
                      refine JJ_zret dX12_isWord_113 rfl (Or.inl rfl) ?_
                      exact ans_i (bw_f (fun z => b2_0.mp c35 (z.2.2 7 (by decide)))).symm
                    · skip
                      refine JJ_iconst (v := 1) dX12_isWord_108 rfl ?_
                      refine JJ_goto (tgt := 113) dX12_isWord_109 (by decide) ?_
                      refine JJ_zret dX12_isWord_113 rfl (Or.inr rfl) ?_
                      refine ans_i (bw_t ⟨c2, (nI_leI (by omega) (by omega)).mp (Int32.not_lt.mp c3), fun k hk => ?_⟩).symm
                      match k, hk with
                      | 0, _ => exact b2_n.mp c7
                      | 1, _ => exact b2_n.mp c11
                      | 2, _ => exact b2_n.mp c15
                      | 3, _ => exact b2_n.mp c19
                      | 4, _ => exact b2_n.mp c23
                      | 5, _ => exact b2_n.mp c27
                      | 6, _ => exact b2_n.mp c31
                      | 7, _ => exact b2_n.mp c35
end RR1
