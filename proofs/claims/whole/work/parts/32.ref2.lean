section REF2
variable {G : Gx} {sc : Nat → Nat → Prop} {n : Nat} {S : Nat → Nat × Nat} {M : Nat → Nat → Int32} {L : Nat → Nat → Int64} {P : Nat → Nat → Option Nat} {o : Nat}

theorem kr_says {w p : Nat} {wi far number cell : Int32} {E : RuleF} (hw : w < 3) (hwi : wi = nI w) (hp : p < 2) (hR : RWF o S P) (hN : HSR o sc) (hE : RTX o M E) : KK G sc yX12_says cX12_says 6 (some .int) 60 0 0 [.ref o, .int wi, .int (nI p), .int far, .int number, .int cell] (n, S, M, L, P) (ansI (s_within (E w far (M o 11) (M (o + 5) p) (M (o + 6) p) number cell) 0 (if w = 2 then 100 else 99)) (n, S, M, L, P)) := kr_saysP hw hwi hp hR hN hE
set_option maxHeartbeats 4000000 in
set_option maxRecDepth 100000 in
theorem kr_needs {p : Nat} {E : RuleF} (hp : p < 2) (hR : RWF o S P) (hN : HSR o sc) (hE : RTX o M E) {fr to : Int32} : KK G sc yX12_needsOf cX12_needsOf 5 (some .int) 61 0 0 [.ref o, .int (nI p), .int fr, .int to] (n, S, M, L, P) (ansI (s_needs E (M o 11) (M (o + 5) p) (M (o + 6) p) fr to) (n, S, M, L, P)) := by
  refine KK_of2 [(0, .ref o), (1, .int (nI p)), (2, .int fr), (3, .int to)] (by decide +kernel) (Nat.le_of_ble_eq_true rfl) rfl ?_
  refine JJ_iload_n dX12_needsOf_0 rfl rfl ?_
  refine JJ_iload_n dX12_needsOf_1 rfl rfl ?_
  refine JJ_callS (rest := []) (kr_far (a := fr) (b := to)) (by decide) mi_X12_farOf lk_X12_255 rfl (Nat.le_of_ble_eq_true rfl) rfl rfl dX12_needsOf_2 ?_
  intro v1 μ2 h3
  obtain ⟨rfl, rfl⟩ := h3
  refine JJ_r1 ?_
  refine JJ_istore (lv' := [(4, .int (s_far fr to)), (0, .ref o), (1, .int (nI p)), (2, .int fr), (3, .int to)]) dX12_needsOf_5 (by decide) rfl ?_
  refine JJ_aload_n dX12_needsOf_7 rfl rfl ?_
  refine JJ_iconst (v := 1) dX12_needsOf_8 rfl ?_
  refine JJ_iload_n dX12_needsOf_9 rfl rfl ?_
  refine JJ_iload dX12_needsOf_10 rfl ?_
  refine JJ_iconst (v := 0) dX12_needsOf_12 rfl ?_
  refine JJ_iload_n dX12_needsOf_13 rfl rfl ?_
  refine JJ_callV (rest := []) hR.1 rfl rfl (kr_says (w := 1) (E := E) (far := s_far fr to) (number := 0) (cell := fr) (by decide) rfl hp hR hN hE) (by decide) mi_X12_says lk_X12_258 rfl (Nat.le_of_ble_eq_true rfl) rfl rfl dX12_needsOf_14 ?_
  intro v4 μ5 h6
  obtain ⟨rfl, rfl⟩ := h6
  refine JJ_r1 ?_
  refine JJ_iload dX12_needsOf_17 rfl ?_
  refine JJ_imul dX12_needsOf_19 ?_
  refine JJ_iret dX12_needsOf_20 rfl ?_
  exact ans_i rfl
set_option maxHeartbeats 4000000 in
set_option maxRecDepth 100000 in
theorem kr_tenths {p k : Nat} {E : RuleF} (hp : p < 2) (hk : k < 6) (hR : RWF o S P) (hN : HSR o sc) (hE : RTX o M E) : KK G sc yX12_tenthsOf cX12_tenthsOf 9 (some .int) 61 0 0 [.ref o, .int (nI p), .int (nI k)] (n, S, M, L, P) (ansI (s_tenths E (M o 11) (M (o + 5) p) (M (o + 6) p) (M (o + 8) k) (M (o + 9) k) (M (o + 4) p) (s_comes (M (o + 8) k) (M (o + 10) k) (M (o + 4) p))) (n, S, M, L, P)) := by
  refine KK_of2 [(0, .ref o), (1, .int (nI p)), (2, .int (nI k))] (by decide +kernel) (Nat.le_of_ble_eq_true rfl) rfl ?_
  refine JJ_aload_n dX12_tenthsOf_0 rfl rfl ?_
  refine JJ_getr (q := o + 8) (cis := [12]) (k := 12) fa_X12_35 (by decide) hR.1 rfl (hR.2 (12, 8, 20, 6) (by decide)).1 dX12_tenthsOf_1 ?_
  refine JJ_iload_n dX12_tenthsOf_4 rfl rfl ?_
  refine JJ_ialdX (v := M (o + 8) k) (hR.2 (12, 8, 20, 6) (by decide)).2 (IX_nI (by omega) (by omega)) (hN.2.1 8 _ (by decide) (by decide)) rfl dX12_tenthsOf_5 ?_
  refine JJ_istore_n (lv' := [(3, .int (M (o + 8) k)), (0, .ref o), (1, .int (nI p)), (2, .int (nI k))]) dX12_tenthsOf_6 rfl (by decide) rfl ?_
  refine JJ_aload_n dX12_tenthsOf_7 rfl rfl ?_
  refine JJ_iload_n dX12_tenthsOf_8 rfl rfl ?_
  refine JJ_aload_n dX12_tenthsOf_9 rfl rfl ?_
  refine JJ_getr (q := o + 4) (cis := [12]) (k := 7) fa_X12_23 (by decide) hR.1 rfl (hR.2 (7, 4, 20, 2) (by decide)).1 dX12_tenthsOf_10 ?_
  refine JJ_iload_n dX12_tenthsOf_13 rfl rfl ?_
  refine JJ_ialdX (v := M (o + 4) p) (hR.2 (7, 4, 20, 2) (by decide)).2 (IX_nI (by omega) (by omega)) (hN.2.1 4 _ (by decide) (by decide)) rfl dX12_tenthsOf_14 ?_
  refine JJ_callV (rest := []) hR.1 rfl rfl (kr_comes (fr := M (o + 4) p) hk hR hN) (by decide) mi_X12_comesTo lk_X12_252 rfl (Nat.le_of_ble_eq_true rfl) rfl rfl dX12_tenthsOf_15 ?_
  intro v1 μ2 h3
  obtain ⟨rfl, rfl⟩ := h3
  refine JJ_r1 ?_
  refine JJ_istore (lv' := [(4, .int (s_comes (M (o + 8) k) (M (o + 10) k) (M (o + 4) p))), (3, .int (M (o + 8) k)), (0, .ref o), (1, .int (nI p)), (2, .int (nI k))]) dX12_tenthsOf_18 (by decide) rfl ?_
  refine JJ_aload_n dX12_tenthsOf_20 rfl rfl ?_
  refine JJ_iconst (v := 0) dX12_tenthsOf_21 rfl ?_
  refine JJ_iload_n dX12_tenthsOf_22 rfl rfl ?_
  refine JJ_aload_n dX12_tenthsOf_23 rfl rfl ?_
  refine JJ_getr (q := o + 4) (cis := [12]) (k := 7) fa_X12_23 (by decide) hR.1 rfl (hR.2 (7, 4, 20, 2) (by decide)).1 dX12_tenthsOf_24 ?_
  refine JJ_iload_n dX12_tenthsOf_27 rfl rfl ?_
  refine JJ_ialdX (v := M (o + 4) p) (hR.2 (7, 4, 20, 2) (by decide)).2 (IX_nI (by omega) (by omega)) (hN.2.1 4 _ (by decide) (by decide)) rfl dX12_tenthsOf_28 ?_
  refine JJ_iload dX12_tenthsOf_29 rfl ?_
  refine JJ_callS (rest := [.int (nI p), .int 0, .ref o]) (kr_far (a := M (o + 4) p) (b := s_comes (M (o + 8) k) (M (o + 10) k) (M (o + 4) p))) (by decide) mi_X12_farOf lk_X12_255 rfl (Nat.le_of_ble_eq_true rfl) rfl rfl dX12_tenthsOf_31 ?_
  intro v4 μ5 h6
  obtain ⟨rfl, rfl⟩ := h6
  refine JJ_r1 ?_
  refine JJ_aload_n dX12_tenthsOf_34 rfl rfl ?_
  refine JJ_getr (q := o + 9) (cis := [12]) (k := 13) fa_X12_38 (by decide) hR.1 rfl (hR.2 (13, 9, 20, 6) (by decide)).1 dX12_tenthsOf_35 ?_
  refine JJ_iload_n dX12_tenthsOf_38 rfl rfl ?_
  refine JJ_ialdX (v := M (o + 9) k) (hR.2 (13, 9, 20, 6) (by decide)).2 (IX_nI (by omega) (by omega)) (hN.2.1 9 _ (by decide) (by decide)) rfl dX12_tenthsOf_39 ?_
  refine JJ_iload dX12_tenthsOf_40 rfl ?_
  refine JJ_callV (rest := []) hR.1 rfl rfl (kr_says (w := 0) (E := E) (far := s_far (M (o + 4) p) (s_comes (M (o + 8) k) (M (o + 10) k) (M (o + 4) p))) (number := M (o + 9) k) (cell := s_comes (M (o + 8) k) (M (o + 10) k) (M (o + 4) p)) (by decide) rfl hp hR hN hE) (by decide) mi_X12_says lk_X12_258 rfl (Nat.le_of_ble_eq_true rfl) rfl rfl dX12_tenthsOf_42 ?_
  intro v7 μ8 h9
  obtain ⟨rfl, rfl⟩ := h9
  refine JJ_r1 ?_
  refine JJ_istore (lv' := [(5, .int (s_within (E 0 (s_far (M (o + 4) p) (s_comes (M (o + 8) k) (M (o + 10) k) (M (o + 4) p))) (M o 11) (M (o + 5) p) (M (o + 6) p) (M (o + 9) k) (s_comes (M (o + 8) k) (M (o + 10) k) (M (o + 4) p))) 0 99)), (4, .int (s_comes (M (o + 8) k) (M (o + 10) k) (M (o + 4) p))), (3, .int (M (o + 8) k)), (0, .ref o), (1, .int (nI p)), (2, .int (nI k))]) dX12_tenthsOf_45 (by decide) rfl ?_
  refine JJ_iload_n dX12_tenthsOf_47 rfl rfl ?_
  refine JJ_if_ne (tgt := 54) dX12_tenthsOf_48 (by decide) (fun c10 => ?_) (fun c10 => ?_)
  · skip
    refine JJ_aload_n dX12_tenthsOf_54 rfl rfl ?_
    refine JJ_geti (v := M o 11) (cis := [12]) (k := 11) fa_X12_109 (by decide) hR.1 rfl (hN.1 11 (by decide)) rfl dX12_tenthsOf_55 ?_
    refine JJ_bipush (v := 20) dX12_tenthsOf_58 rfl ?_
    refine JJ_icmp_ge (tgt := 70) dX12_tenthsOf_60 (by decide) (fun c11 => ?_) (fun c11 => ?_)
    · skip
      refine JJ_iload dX12_tenthsOf_70 rfl ?_
      refine JJ_istore (lv' := [(6, .int (s_within (E 0 (s_far (M (o + 4) p) (s_comes (M (o + 8) k) (M (o + 10) k) (M (o + 4) p))) (M o 11) (M (o + 5) p) (M (o + 6) p) (M (o + 9) k) (s_comes (M (o + 8) k) (M (o + 10) k) (M (o + 4) p))) 0 99)), (5, .int (s_within (E 0 (s_far (M (o + 4) p) (s_comes (M (o + 8) k) (M (o + 10) k) (M (o + 4) p))) (M o 11) (M (o + 5) p) (M (o + 6) p) (M (o + 9) k) (s_comes (M (o + 8) k) (M (o + 10) k) (M (o + 4) p))) 0 99)), (4, .int (s_comes (M (o + 8) k) (M (o + 10) k) (M (o + 4) p))), (3, .int (M (o + 8) k)), (0, .ref o), (1, .int (nI p)), (2, .int (nI k))]) dX12_tenthsOf_72 (by decide) rfl ?_
      refine JJ_iload_n dX12_tenthsOf_74 rfl rfl ?_
      refine JJ_iconst (v := 2) dX12_tenthsOf_75 rfl ?_
      refine JJ_icmp_eq (tgt := 84) dX12_tenthsOf_76 (by decide) (fun c12 => ?_) (fun c12 => ?_)
      · skip
        refine JJ_iload_n dX12_tenthsOf_84 rfl rfl ?_
        refine JJ_iconst (v := 4) dX12_tenthsOf_85 rfl ?_
        refine JJ_icmp_ne (tgt := 96) dX12_tenthsOf_86 (by decide) (fun c13 => ?_) (fun c13 => ?_)
        · skip
          refine JJ_iload dX12_tenthsOf_96 rfl ?_
          refine JJ_iret dX12_tenthsOf_98 rfl ?_
          exact ans_i (by first | (unfold s_tenths s_flight; (try rw [if_pos c10]); (try rw [if_neg c10]); (try rw [if_pos c11]); (try rw [if_neg c11]); (try rw [if_pos c12]); (try rw [if_neg c12]); (try rw [if_pos c13]); (try rw [if_neg c13]); (try rw [if_pos c10]); (try rw [if_neg c10]); (try rw [if_pos c11]); (try rw [if_neg c11]); (try rw [if_pos c12]); (try rw [if_neg c12]); (try rw [if_pos c13]); (try rw [if_neg c13]); done) | (exfalso; simp_all; done))
        · skip
          refine JJ_iload dX12_tenthsOf_89 rfl ?_
          refine JJ_iconst (v := 3) dX12_tenthsOf_91 rfl ?_
          refine JJ_iadd dX12_tenthsOf_92 ?_
          refine JJ_goto (tgt := 98) dX12_tenthsOf_93 (by decide) ?_
          refine JJ_iret dX12_tenthsOf_98 rfl ?_
          exact ans_i (by first | (unfold s_tenths s_flight; (try rw [if_pos c10]); (try rw [if_neg c10]); (try rw [if_pos c11]); (try rw [if_neg c11]); (try rw [if_pos c12]); (try rw [if_neg c12]); (try rw [if_pos c13]); (try rw [if_neg c13]); (try rw [if_pos c10]); (try rw [if_neg c10]); (try rw [if_pos c11]); (try rw [if_neg c11]); (try rw [if_pos c12]); (try rw [if_neg c12]); (try rw [if_pos c13]); (try rw [if_neg c13]); done) | (exfalso; simp_all; done))
      · skip
        refine JJ_iload_n dX12_tenthsOf_79 rfl rfl ?_
        refine JJ_iconst (v := 4) dX12_tenthsOf_80 rfl ?_
        refine JJ_icmp_ne (tgt := 99) dX12_tenthsOf_81 (by decide) (fun c14 => ?_) (fun c14 => ?_)
        · skip
          refine JJ_iload dX12_tenthsOf_99 rfl ?_
          refine JJ_aload_n dX12_tenthsOf_101 rfl rfl ?_
          refine JJ_getr (q := o + 9) (cis := [12]) (k := 13) fa_X12_38 (by decide) hR.1 rfl (hR.2 (13, 9, 20, 6) (by decide)).1 dX12_tenthsOf_102 ?_
          refine JJ_iload_n dX12_tenthsOf_105 rfl rfl ?_
          refine JJ_ialdX (v := M (o + 9) k) (hR.2 (13, 9, 20, 6) (by decide)).2 (IX_nI (by omega) (by omega)) (hN.2.1 9 _ (by decide) (by decide)) rfl dX12_tenthsOf_106 ?_
          refine JJ_iadd dX12_tenthsOf_107 ?_
          refine JJ_istore (lv' := [(7, .int ((s_within (E 0 (s_far (M (o + 4) p) (s_comes (M (o + 8) k) (M (o + 10) k) (M (o + 4) p))) (M o 11) (M (o + 5) p) (M (o + 6) p) (M (o + 9) k) (s_comes (M (o + 8) k) (M (o + 10) k) (M (o + 4) p))) 0 99) + (M (o + 9) k))), (6, .int (s_within (E 0 (s_far (M (o + 4) p) (s_comes (M (o + 8) k) (M (o + 10) k) (M (o + 4) p))) (M o 11) (M (o + 5) p) (M (o + 6) p) (M (o + 9) k) (s_comes (M (o + 8) k) (M (o + 10) k) (M (o + 4) p))) 0 99)), (5, .int (s_within (E 0 (s_far (M (o + 4) p) (s_comes (M (o + 8) k) (M (o + 10) k) (M (o + 4) p))) (M o 11) (M (o + 5) p) (M (o + 6) p) (M (o + 9) k) (s_comes (M (o + 8) k) (M (o + 10) k) (M (o + 4) p))) 0 99)), (4, .int (s_comes (M (o + 8) k) (M (o + 10) k) (M (o + 4) p))), (3, .int (M (o + 8) k)), (0, .ref o), (1, .int (nI p)), (2, .int (nI k))]) dX12_tenthsOf_108 (by decide) rfl ?_
          refine JJ_iload_n dX12_tenthsOf_110 rfl rfl ?_
          refine JJ_iconst (v := 3) dX12_tenthsOf_111 rfl ?_
          refine JJ_icmp_ne (tgt := 123) dX12_tenthsOf_112 (by decide) (fun c15 => ?_) (fun c15 => ?_)
          · skip
            refine JJ_iload_n dX12_tenthsOf_123 rfl rfl ?_
            refine JJ_iconst (v := 5) dX12_tenthsOf_124 rfl ?_
            refine JJ_icmp_ne (tgt := 135) dX12_tenthsOf_125 (by decide) (fun c16 => ?_) (fun c16 => ?_)
            · skip
              refine JJ_iload dX12_tenthsOf_135 rfl ?_
              refine JJ_istore (lv' := [(8, .int ((s_within (E 0 (s_far (M (o + 4) p) (s_comes (M (o + 8) k) (M (o + 10) k) (M (o + 4) p))) (M o 11) (M (o + 5) p) (M (o + 6) p) (M (o + 9) k) (s_comes (M (o + 8) k) (M (o + 10) k) (M (o + 4) p))) 0 99) + (M (o + 9) k))), (7, .int ((s_within (E 0 (s_far (M (o + 4) p) (s_comes (M (o + 8) k) (M (o + 10) k) (M (o + 4) p))) (M o 11) (M (o + 5) p) (M (o + 6) p) (M (o + 9) k) (s_comes (M (o + 8) k) (M (o + 10) k) (M (o + 4) p))) 0 99) + (M (o + 9) k))), (6, .int (s_within (E 0 (s_far (M (o + 4) p) (s_comes (M (o + 8) k) (M (o + 10) k) (M (o + 4) p))) (M o 11) (M (o + 5) p) (M (o + 6) p) (M (o + 9) k) (s_comes (M (o + 8) k) (M (o + 10) k) (M (o + 4) p))) 0 99)), (5, .int (s_within (E 0 (s_far (M (o + 4) p) (s_comes (M (o + 8) k) (M (o + 10) k) (M (o + 4) p))) (M o 11) (M (o + 5) p) (M (o + 6) p) (M (o + 9) k) (s_comes (M (o + 8) k) (M (o + 10) k) (M (o + 4) p))) 0 99)), (4, .int (s_comes (M (o + 8) k) (M (o + 10) k) (M (o + 4) p))), (3, .int (M (o + 8) k)), (0, .ref o), (1, .int (nI p)), (2, .int (nI k))]) dX12_tenthsOf_137 (by decide) rfl ?_
              refine JJ_iload dX12_tenthsOf_139 rfl ?_
              refine JJ_if_ge (tgt := 148) dX12_tenthsOf_141 (by decide) (fun c17 => ?_) (fun c17 => ?_)
              · skip
                refine JJ_iload dX12_tenthsOf_148 rfl ?_
                refine JJ_iret dX12_tenthsOf_150 rfl ?_
                exact ans_i (by first | (unfold s_tenths s_flight; (try rw [if_pos c10]); (try rw [if_neg c10]); (try rw [if_pos c11]); (try rw [if_neg c11]); (try rw [if_pos c12]); (try rw [if_neg c12]); (try rw [if_pos c14]); (try rw [if_neg c14]); (try rw [if_pos c15]); (try rw [if_neg c15]); (try rw [if_pos c16]); (try rw [if_neg c16]); (try rw [if_pos c17]); (try rw [if_neg c17]); (try rw [if_pos c10]); (try rw [if_neg c10]); (try rw [if_pos c11]); (try rw [if_neg c11]); (try rw [if_pos c12]); (try rw [if_neg c12]); (try rw [if_pos c14]); (try rw [if_neg c14]); (try rw [if_pos c15]); (try rw [if_neg c15]); (try rw [if_pos c16]); (try rw [if_neg c16]); (try rw [if_pos c17]); (try rw [if_neg c17]); done) | (exfalso; simp_all; done))
              · skip
                refine JJ_iconst (v := 0) dX12_tenthsOf_144 rfl ?_
                refine JJ_goto (tgt := 150) dX12_tenthsOf_145 (by decide) ?_
                refine JJ_iret dX12_tenthsOf_150 rfl ?_
                exact ans_i (by first | (unfold s_tenths s_flight; (try rw [if_pos c10]); (try rw [if_neg c10]); (try rw [if_pos c11]); (try rw [if_neg c11]); (try rw [if_pos c12]); (try rw [if_neg c12]); (try rw [if_pos c14]); (try rw [if_neg c14]); (try rw [if_pos c15]); (try rw [if_neg c15]); (try rw [if_pos c16]); (try rw [if_neg c16]); (try rw [if_pos c17]); (try rw [if_neg c17]); (try rw [if_pos c10]); (try rw [if_neg c10]); (try rw [if_pos c11]); (try rw [if_neg c11]); (try rw [if_pos c12]); (try rw [if_neg c12]); (try rw [if_pos c14]); (try rw [if_neg c14]); (try rw [if_pos c15]); (try rw [if_neg c15]); (try rw [if_pos c16]); (try rw [if_neg c16]); (try rw [if_pos c17]); (try rw [if_neg c17]); done) | (exfalso; simp_all; done))
            · skip
              refine JJ_iload dX12_tenthsOf_128 rfl ?_
              refine JJ_iconst (v := 2) dX12_tenthsOf_130 rfl ?_
              refine JJ_isub dX12_tenthsOf_131 ?_
              refine JJ_goto (tgt := 137) dX12_tenthsOf_132 (by decide) ?_
              refine JJ_istore (lv' := [(8, .int (((s_within (E 0 (s_far (M (o + 4) p) (s_comes (M (o + 8) k) (M (o + 10) k) (M (o + 4) p))) (M o 11) (M (o + 5) p) (M (o + 6) p) (M (o + 9) k) (s_comes (M (o + 8) k) (M (o + 10) k) (M (o + 4) p))) 0 99) + (M (o + 9) k)) - 2)), (7, .int ((s_within (E 0 (s_far (M (o + 4) p) (s_comes (M (o + 8) k) (M (o + 10) k) (M (o + 4) p))) (M o 11) (M (o + 5) p) (M (o + 6) p) (M (o + 9) k) (s_comes (M (o + 8) k) (M (o + 10) k) (M (o + 4) p))) 0 99) + (M (o + 9) k))), (6, .int (s_within (E 0 (s_far (M (o + 4) p) (s_comes (M (o + 8) k) (M (o + 10) k) (M (o + 4) p))) (M o 11) (M (o + 5) p) (M (o + 6) p) (M (o + 9) k) (s_comes (M (o + 8) k) (M (o + 10) k) (M (o + 4) p))) 0 99)), (5, .int (s_within (E 0 (s_far (M (o + 4) p) (s_comes (M (o + 8) k) (M (o + 10) k) (M (o + 4) p))) (M o 11) (M (o + 5) p) (M (o + 6) p) (M (o + 9) k) (s_comes (M (o + 8) k) (M (o + 10) k) (M (o + 4) p))) 0 99)), (4, .int (s_comes (M (o + 8) k) (M (o + 10) k) (M (o + 4) p))), (3, .int (M (o + 8) k)), (0, .ref o), (1, .int (nI p)), (2, .int (nI k))]) dX12_tenthsOf_137 (by decide) rfl ?_
              refine JJ_iload dX12_tenthsOf_139 rfl ?_
              refine JJ_if_ge (tgt := 148) dX12_tenthsOf_141 (by decide) (fun c18 => ?_) (fun c18 => ?_)
              · skip
                refine JJ_iload dX12_tenthsOf_148 rfl ?_
                refine JJ_iret dX12_tenthsOf_150 rfl ?_
                exact ans_i (by first | (unfold s_tenths s_flight; (try rw [if_pos c10]); (try rw [if_neg c10]); (try rw [if_pos c11]); (try rw [if_neg c11]); (try rw [if_pos c12]); (try rw [if_neg c12]); (try rw [if_pos c14]); (try rw [if_neg c14]); (try rw [if_pos c15]); (try rw [if_neg c15]); (try rw [if_pos c16]); (try rw [if_neg c16]); (try rw [if_pos c18]); (try rw [if_neg c18]); (try rw [if_pos c10]); (try rw [if_neg c10]); (try rw [if_pos c11]); (try rw [if_neg c11]); (try rw [if_pos c12]); (try rw [if_neg c12]); (try rw [if_pos c14]); (try rw [if_neg c14]); (try rw [if_pos c15]); (try rw [if_neg c15]); (try rw [if_pos c16]); (try rw [if_neg c16]); (try rw [if_pos c18]); (try rw [if_neg c18]); done) | (exfalso; simp_all; done))
              · skip
                refine JJ_iconst (v := 0) dX12_tenthsOf_144 rfl ?_
                refine JJ_goto (tgt := 150) dX12_tenthsOf_145 (by decide) ?_
                refine JJ_iret dX12_tenthsOf_150 rfl ?_
                exact ans_i (by first | (unfold s_tenths s_flight; (try rw [if_pos c10]); (try rw [if_neg c10]); (try rw [if_pos c11]); (try rw [if_neg c11]); (try rw [if_pos c12]); (try rw [if_neg c12]); (try rw [if_pos c14]); (try rw [if_neg c14]); (try rw [if_pos c15]); (try rw [if_neg c15]); (try rw [if_pos c16]); (try rw [if_neg c16]); (try rw [if_pos c18]); (try rw [if_neg c18]); (try rw [if_pos c10]); (try rw [if_neg c10]); (try rw [if_pos c11]); (try rw [if_neg c11]); (try rw [if_pos c12]); (try rw [if_neg c12]); (try rw [if_pos c14]); (try rw [if_neg c14]); (try rw [if_pos c15]); (try rw [if_neg c15]); (try rw [if_pos c16]); (try rw [if_neg c16]); (try rw [if_pos c18]); (try rw [if_neg c18]); done) | (exfalso; simp_all; done))
          · skip
            refine JJ_iload dX12_tenthsOf_115 rfl ?_
            refine JJ_bipush (v := 10) dX12_tenthsOf_117 rfl ?_
            refine JJ_iadd dX12_tenthsOf_119 ?_
            refine JJ_goto (tgt := 137) dX12_tenthsOf_120 (by decide) ?_
            refine JJ_istore (lv' := [(8, .int (((s_within (E 0 (s_far (M (o + 4) p) (s_comes (M (o + 8) k) (M (o + 10) k) (M (o + 4) p))) (M o 11) (M (o + 5) p) (M (o + 6) p) (M (o + 9) k) (s_comes (M (o + 8) k) (M (o + 10) k) (M (o + 4) p))) 0 99) + (M (o + 9) k)) + 10)), (7, .int ((s_within (E 0 (s_far (M (o + 4) p) (s_comes (M (o + 8) k) (M (o + 10) k) (M (o + 4) p))) (M o 11) (M (o + 5) p) (M (o + 6) p) (M (o + 9) k) (s_comes (M (o + 8) k) (M (o + 10) k) (M (o + 4) p))) 0 99) + (M (o + 9) k))), (6, .int (s_within (E 0 (s_far (M (o + 4) p) (s_comes (M (o + 8) k) (M (o + 10) k) (M (o + 4) p))) (M o 11) (M (o + 5) p) (M (o + 6) p) (M (o + 9) k) (s_comes (M (o + 8) k) (M (o + 10) k) (M (o + 4) p))) 0 99)), (5, .int (s_within (E 0 (s_far (M (o + 4) p) (s_comes (M (o + 8) k) (M (o + 10) k) (M (o + 4) p))) (M o 11) (M (o + 5) p) (M (o + 6) p) (M (o + 9) k) (s_comes (M (o + 8) k) (M (o + 10) k) (M (o + 4) p))) 0 99)), (4, .int (s_comes (M (o + 8) k) (M (o + 10) k) (M (o + 4) p))), (3, .int (M (o + 8) k)), (0, .ref o), (1, .int (nI p)), (2, .int (nI k))]) dX12_tenthsOf_137 (by decide) rfl ?_
            refine JJ_iload dX12_tenthsOf_139 rfl ?_
            refine JJ_if_ge (tgt := 148) dX12_tenthsOf_141 (by decide) (fun c19 => ?_) (fun c19 => ?_)
            · skip
              refine JJ_iload dX12_tenthsOf_148 rfl ?_
              refine JJ_iret dX12_tenthsOf_150 rfl ?_
              exact ans_i (by first | (unfold s_tenths s_flight; (try rw [if_pos c10]); (try rw [if_neg c10]); (try rw [if_pos c11]); (try rw [if_neg c11]); (try rw [if_pos c12]); (try rw [if_neg c12]); (try rw [if_pos c14]); (try rw [if_neg c14]); (try rw [if_pos c15]); (try rw [if_neg c15]); (try rw [if_pos c19]); (try rw [if_neg c19]); (try rw [if_pos c10]); (try rw [if_neg c10]); (try rw [if_pos c11]); (try rw [if_neg c11]); (try rw [if_pos c12]); (try rw [if_neg c12]); (try rw [if_pos c14]); (try rw [if_neg c14]); (try rw [if_pos c15]); (try rw [if_neg c15]); (try rw [if_pos c19]); (try rw [if_neg c19]); done) | (exfalso; simp_all; done))
            · skip
              refine JJ_iconst (v := 0) dX12_tenthsOf_144 rfl ?_
              refine JJ_goto (tgt := 150) dX12_tenthsOf_145 (by decide) ?_
              refine JJ_iret dX12_tenthsOf_150 rfl ?_
              exact ans_i (by first | (unfold s_tenths s_flight; (try rw [if_pos c10]); (try rw [if_neg c10]); (try rw [if_pos c11]); (try rw [if_neg c11]); (try rw [if_pos c12]); (try rw [if_neg c12]); (try rw [if_pos c14]); (try rw [if_neg c14]); (try rw [if_pos c15]); (try rw [if_neg c15]); (try rw [if_pos c19]); (try rw [if_neg c19]); (try rw [if_pos c10]); (try rw [if_neg c10]); (try rw [if_pos c11]); (try rw [if_neg c11]); (try rw [if_pos c12]); (try rw [if_neg c12]); (try rw [if_pos c14]); (try rw [if_neg c14]); (try rw [if_pos c15]); (try rw [if_neg c15]); (try rw [if_pos c19]); (try rw [if_neg c19]); done) | (exfalso; simp_all; done))
        · skip
          refine JJ_iload_n dX12_tenthsOf_84 rfl rfl ?_
          refine JJ_iconst (v := 4) dX12_tenthsOf_85 rfl ?_
          refine JJ_icmp_ne (tgt := 96) dX12_tenthsOf_86 (by decide) (fun c20 => ?_) (fun c20 => ?_)
          · skip
            refine JJ_iload dX12_tenthsOf_96 rfl ?_
            refine JJ_iret dX12_tenthsOf_98 rfl ?_
            exact ans_i (by first | (unfold s_tenths s_flight; (try rw [if_pos c10]); (try rw [if_neg c10]); (try rw [if_pos c11]); (try rw [if_neg c11]); (try rw [if_pos c12]); (try rw [if_neg c12]); (try rw [if_pos c14]); (try rw [if_neg c14]); (try rw [if_pos c20]); (try rw [if_neg c20]); (try rw [if_pos c10]); (try rw [if_neg c10]); (try rw [if_pos c11]); (try rw [if_neg c11]); (try rw [if_pos c12]); (try rw [if_neg c12]); (try rw [if_pos c14]); (try rw [if_neg c14]); (try rw [if_pos c20]); (try rw [if_neg c20]); done) | (exfalso; simp_all; done))
          · skip
            refine JJ_iload dX12_tenthsOf_89 rfl ?_
            refine JJ_iconst (v := 3) dX12_tenthsOf_91 rfl ?_
            refine JJ_iadd dX12_tenthsOf_92 ?_
            refine JJ_goto (tgt := 98) dX12_tenthsOf_93 (by decide) ?_
            refine JJ_iret dX12_tenthsOf_98 rfl ?_
            exact ans_i (by first | (unfold s_tenths s_flight; (try rw [if_pos c10]); (try rw [if_neg c10]); (try rw [if_pos c11]); (try rw [if_neg c11]); (try rw [if_pos c12]); (try rw [if_neg c12]); (try rw [if_pos c14]); (try rw [if_neg c14]); (try rw [if_pos c20]); (try rw [if_neg c20]); (try rw [if_pos c10]); (try rw [if_neg c10]); (try rw [if_pos c11]); (try rw [if_neg c11]); (try rw [if_pos c12]); (try rw [if_neg c12]); (try rw [if_pos c14]); (try rw [if_neg c14]); (try rw [if_pos c20]); (try rw [if_neg c20]); done) | (exfalso; simp_all; done))
    · skip
      refine JJ_iload dX12_tenthsOf_63 rfl ?_
      refine JJ_iconst (v := 2) dX12_tenthsOf_65 rfl ?_
      refine JJ_idiv dX12_tenthsOf_66 (by decide) ?_
      refine JJ_goto (tgt := 72) dX12_tenthsOf_67 (by decide) ?_
      refine JJ_istore (lv' := [(6, .int ((s_within (E 0 (s_far (M (o + 4) p) (s_comes (M (o + 8) k) (M (o + 10) k) (M (o + 4) p))) (M o 11) (M (o + 5) p) (M (o + 6) p) (M (o + 9) k) (s_comes (M (o + 8) k) (M (o + 10) k) (M (o + 4) p))) 0 99) / 2)), (5, .int (s_within (E 0 (s_far (M (o + 4) p) (s_comes (M (o + 8) k) (M (o + 10) k) (M (o + 4) p))) (M o 11) (M (o + 5) p) (M (o + 6) p) (M (o + 9) k) (s_comes (M (o + 8) k) (M (o + 10) k) (M (o + 4) p))) 0 99)), (4, .int (s_comes (M (o + 8) k) (M (o + 10) k) (M (o + 4) p))), (3, .int (M (o + 8) k)), (0, .ref o), (1, .int (nI p)), (2, .int (nI k))]) dX12_tenthsOf_72 (by decide) rfl ?_
      refine JJ_iload_n dX12_tenthsOf_74 rfl rfl ?_
      refine JJ_iconst (v := 2) dX12_tenthsOf_75 rfl ?_
      refine JJ_icmp_eq (tgt := 84) dX12_tenthsOf_76 (by decide) (fun c21 => ?_) (fun c21 => ?_)
      · skip
        refine JJ_iload_n dX12_tenthsOf_84 rfl rfl ?_
        refine JJ_iconst (v := 4) dX12_tenthsOf_85 rfl ?_
        refine JJ_icmp_ne (tgt := 96) dX12_tenthsOf_86 (by decide) (fun c22 => ?_) (fun c22 => ?_)
        · skip
          refine JJ_iload dX12_tenthsOf_96 rfl ?_
          refine JJ_iret dX12_tenthsOf_98 rfl ?_
          exact ans_i (by first | (unfold s_tenths s_flight; (try rw [if_pos c10]); (try rw [if_neg c10]); (try rw [if_pos c11]); (try rw [if_neg c11]); (try rw [if_pos c21]); (try rw [if_neg c21]); (try rw [if_pos c22]); (try rw [if_neg c22]); (try rw [if_pos c10]); (try rw [if_neg c10]); (try rw [if_pos c11]); (try rw [if_neg c11]); (try rw [if_pos c21]); (try rw [if_neg c21]); (try rw [if_pos c22]); (try rw [if_neg c22]); done) | (exfalso; simp_all; done))
        · skip
          refine JJ_iload dX12_tenthsOf_89 rfl ?_
          refine JJ_iconst (v := 3) dX12_tenthsOf_91 rfl ?_
          refine JJ_iadd dX12_tenthsOf_92 ?_
          refine JJ_goto (tgt := 98) dX12_tenthsOf_93 (by decide) ?_
          refine JJ_iret dX12_tenthsOf_98 rfl ?_
          exact ans_i (by first | (unfold s_tenths s_flight; (try rw [if_pos c10]); (try rw [if_neg c10]); (try rw [if_pos c11]); (try rw [if_neg c11]); (try rw [if_pos c21]); (try rw [if_neg c21]); (try rw [if_pos c22]); (try rw [if_neg c22]); (try rw [if_pos c10]); (try rw [if_neg c10]); (try rw [if_pos c11]); (try rw [if_neg c11]); (try rw [if_pos c21]); (try rw [if_neg c21]); (try rw [if_pos c22]); (try rw [if_neg c22]); done) | (exfalso; simp_all; done))
      · skip
        refine JJ_iload_n dX12_tenthsOf_79 rfl rfl ?_
        refine JJ_iconst (v := 4) dX12_tenthsOf_80 rfl ?_
        refine JJ_icmp_ne (tgt := 99) dX12_tenthsOf_81 (by decide) (fun c23 => ?_) (fun c23 => ?_)
        · skip
          refine JJ_iload dX12_tenthsOf_99 rfl ?_
          refine JJ_aload_n dX12_tenthsOf_101 rfl rfl ?_
          refine JJ_getr (q := o + 9) (cis := [12]) (k := 13) fa_X12_38 (by decide) hR.1 rfl (hR.2 (13, 9, 20, 6) (by decide)).1 dX12_tenthsOf_102 ?_
          refine JJ_iload_n dX12_tenthsOf_105 rfl rfl ?_
          refine JJ_ialdX (v := M (o + 9) k) (hR.2 (13, 9, 20, 6) (by decide)).2 (IX_nI (by omega) (by omega)) (hN.2.1 9 _ (by decide) (by decide)) rfl dX12_tenthsOf_106 ?_
          refine JJ_iadd dX12_tenthsOf_107 ?_
          refine JJ_istore (lv' := [(7, .int ((s_within (E 0 (s_far (M (o + 4) p) (s_comes (M (o + 8) k) (M (o + 10) k) (M (o + 4) p))) (M o 11) (M (o + 5) p) (M (o + 6) p) (M (o + 9) k) (s_comes (M (o + 8) k) (M (o + 10) k) (M (o + 4) p))) 0 99) + (M (o + 9) k))), (6, .int ((s_within (E 0 (s_far (M (o + 4) p) (s_comes (M (o + 8) k) (M (o + 10) k) (M (o + 4) p))) (M o 11) (M (o + 5) p) (M (o + 6) p) (M (o + 9) k) (s_comes (M (o + 8) k) (M (o + 10) k) (M (o + 4) p))) 0 99) / 2)), (5, .int (s_within (E 0 (s_far (M (o + 4) p) (s_comes (M (o + 8) k) (M (o + 10) k) (M (o + 4) p))) (M o 11) (M (o + 5) p) (M (o + 6) p) (M (o + 9) k) (s_comes (M (o + 8) k) (M (o + 10) k) (M (o + 4) p))) 0 99)), (4, .int (s_comes (M (o + 8) k) (M (o + 10) k) (M (o + 4) p))), (3, .int (M (o + 8) k)), (0, .ref o), (1, .int (nI p)), (2, .int (nI k))]) dX12_tenthsOf_108 (by decide) rfl ?_
          refine JJ_iload_n dX12_tenthsOf_110 rfl rfl ?_
          refine JJ_iconst (v := 3) dX12_tenthsOf_111 rfl ?_
          refine JJ_icmp_ne (tgt := 123) dX12_tenthsOf_112 (by decide) (fun c24 => ?_) (fun c24 => ?_)
          · skip
            refine JJ_iload_n dX12_tenthsOf_123 rfl rfl ?_
            refine JJ_iconst (v := 5) dX12_tenthsOf_124 rfl ?_
            refine JJ_icmp_ne (tgt := 135) dX12_tenthsOf_125 (by decide) (fun c25 => ?_) (fun c25 => ?_)
            · skip
              refine JJ_iload dX12_tenthsOf_135 rfl ?_
              refine JJ_istore (lv' := [(8, .int ((s_within (E 0 (s_far (M (o + 4) p) (s_comes (M (o + 8) k) (M (o + 10) k) (M (o + 4) p))) (M o 11) (M (o + 5) p) (M (o + 6) p) (M (o + 9) k) (s_comes (M (o + 8) k) (M (o + 10) k) (M (o + 4) p))) 0 99) + (M (o + 9) k))), (7, .int ((s_within (E 0 (s_far (M (o + 4) p) (s_comes (M (o + 8) k) (M (o + 10) k) (M (o + 4) p))) (M o 11) (M (o + 5) p) (M (o + 6) p) (M (o + 9) k) (s_comes (M (o + 8) k) (M (o + 10) k) (M (o + 4) p))) 0 99) + (M (o + 9) k))), (6, .int ((s_within (E 0 (s_far (M (o + 4) p) (s_comes (M (o + 8) k) (M (o + 10) k) (M (o + 4) p))) (M o 11) (M (o + 5) p) (M (o + 6) p) (M (o + 9) k) (s_comes (M (o + 8) k) (M (o + 10) k) (M (o + 4) p))) 0 99) / 2)), (5, .int (s_within (E 0 (s_far (M (o + 4) p) (s_comes (M (o + 8) k) (M (o + 10) k) (M (o + 4) p))) (M o 11) (M (o + 5) p) (M (o + 6) p) (M (o + 9) k) (s_comes (M (o + 8) k) (M (o + 10) k) (M (o + 4) p))) 0 99)), (4, .int (s_comes (M (o + 8) k) (M (o + 10) k) (M (o + 4) p))), (3, .int (M (o + 8) k)), (0, .ref o), (1, .int (nI p)), (2, .int (nI k))]) dX12_tenthsOf_137 (by decide) rfl ?_
              refine JJ_iload dX12_tenthsOf_139 rfl ?_
              refine JJ_if_ge (tgt := 148) dX12_tenthsOf_141 (by decide) (fun c26 => ?_) (fun c26 => ?_)
              · skip
                refine JJ_iload dX12_tenthsOf_148 rfl ?_
                refine JJ_iret dX12_tenthsOf_150 rfl ?_
                exact ans_i (by first | (unfold s_tenths s_flight; (try rw [if_pos c10]); (try rw [if_neg c10]); (try rw [if_pos c11]); (try rw [if_neg c11]); (try rw [if_pos c21]); (try rw [if_neg c21]); (try rw [if_pos c23]); (try rw [if_neg c23]); (try rw [if_pos c24]); (try rw [if_neg c24]); (try rw [if_pos c25]); (try rw [if_neg c25]); (try rw [if_pos c26]); (try rw [if_neg c26]); (try rw [if_pos c10]); (try rw [if_neg c10]); (try rw [if_pos c11]); (try rw [if_neg c11]); (try rw [if_pos c21]); (try rw [if_neg c21]); (try rw [if_pos c23]); (try rw [if_neg c23]); (try rw [if_pos c24]); (try rw [if_neg c24]); (try rw [if_pos c25]); (try rw [if_neg c25]); (try rw [if_pos c26]); (try rw [if_neg c26]); done) | (exfalso; simp_all; done))
              · skip
                refine JJ_iconst (v := 0) dX12_tenthsOf_144 rfl ?_
                refine JJ_goto (tgt := 150) dX12_tenthsOf_145 (by decide) ?_
                refine JJ_iret dX12_tenthsOf_150 rfl ?_
                exact ans_i (by first | (unfold s_tenths s_flight; (try rw [if_pos c10]); (try rw [if_neg c10]); (try rw [if_pos c11]); (try rw [if_neg c11]); (try rw [if_pos c21]); (try rw [if_neg c21]); (try rw [if_pos c23]); (try rw [if_neg c23]); (try rw [if_pos c24]); (try rw [if_neg c24]); (try rw [if_pos c25]); (try rw [if_neg c25]); (try rw [if_pos c26]); (try rw [if_neg c26]); (try rw [if_pos c10]); (try rw [if_neg c10]); (try rw [if_pos c11]); (try rw [if_neg c11]); (try rw [if_pos c21]); (try rw [if_neg c21]); (try rw [if_pos c23]); (try rw [if_neg c23]); (try rw [if_pos c24]); (try rw [if_neg c24]); (try rw [if_pos c25]); (try rw [if_neg c25]); (try rw [if_pos c26]); (try rw [if_neg c26]); done) | (exfalso; simp_all; done))
            · skip
              refine JJ_iload dX12_tenthsOf_128 rfl ?_
              refine JJ_iconst (v := 2) dX12_tenthsOf_130 rfl ?_
              refine JJ_isub dX12_tenthsOf_131 ?_
              refine JJ_goto (tgt := 137) dX12_tenthsOf_132 (by decide) ?_
              refine JJ_istore (lv' := [(8, .int (((s_within (E 0 (s_far (M (o + 4) p) (s_comes (M (o + 8) k) (M (o + 10) k) (M (o + 4) p))) (M o 11) (M (o + 5) p) (M (o + 6) p) (M (o + 9) k) (s_comes (M (o + 8) k) (M (o + 10) k) (M (o + 4) p))) 0 99) + (M (o + 9) k)) - 2)), (7, .int ((s_within (E 0 (s_far (M (o + 4) p) (s_comes (M (o + 8) k) (M (o + 10) k) (M (o + 4) p))) (M o 11) (M (o + 5) p) (M (o + 6) p) (M (o + 9) k) (s_comes (M (o + 8) k) (M (o + 10) k) (M (o + 4) p))) 0 99) + (M (o + 9) k))), (6, .int ((s_within (E 0 (s_far (M (o + 4) p) (s_comes (M (o + 8) k) (M (o + 10) k) (M (o + 4) p))) (M o 11) (M (o + 5) p) (M (o + 6) p) (M (o + 9) k) (s_comes (M (o + 8) k) (M (o + 10) k) (M (o + 4) p))) 0 99) / 2)), (5, .int (s_within (E 0 (s_far (M (o + 4) p) (s_comes (M (o + 8) k) (M (o + 10) k) (M (o + 4) p))) (M o 11) (M (o + 5) p) (M (o + 6) p) (M (o + 9) k) (s_comes (M (o + 8) k) (M (o + 10) k) (M (o + 4) p))) 0 99)), (4, .int (s_comes (M (o + 8) k) (M (o + 10) k) (M (o + 4) p))), (3, .int (M (o + 8) k)), (0, .ref o), (1, .int (nI p)), (2, .int (nI k))]) dX12_tenthsOf_137 (by decide) rfl ?_
              refine JJ_iload dX12_tenthsOf_139 rfl ?_
              refine JJ_if_ge (tgt := 148) dX12_tenthsOf_141 (by decide) (fun c27 => ?_) (fun c27 => ?_)
              · skip
                refine JJ_iload dX12_tenthsOf_148 rfl ?_
                refine JJ_iret dX12_tenthsOf_150 rfl ?_
                exact ans_i (by first | (unfold s_tenths s_flight; (try rw [if_pos c10]); (try rw [if_neg c10]); (try rw [if_pos c11]); (try rw [if_neg c11]); (try rw [if_pos c21]); (try rw [if_neg c21]); (try rw [if_pos c23]); (try rw [if_neg c23]); (try rw [if_pos c24]); (try rw [if_neg c24]); (try rw [if_pos c25]); (try rw [if_neg c25]); (try rw [if_pos c27]); (try rw [if_neg c27]); (try rw [if_pos c10]); (try rw [if_neg c10]); (try rw [if_pos c11]); (try rw [if_neg c11]); (try rw [if_pos c21]); (try rw [if_neg c21]); (try rw [if_pos c23]); (try rw [if_neg c23]); (try rw [if_pos c24]); (try rw [if_neg c24]); (try rw [if_pos c25]); (try rw [if_neg c25]); (try rw [if_pos c27]); (try rw [if_neg c27]); done) | (exfalso; simp_all; done))
              · skip
                refine JJ_iconst (v := 0) dX12_tenthsOf_144 rfl ?_
                refine JJ_goto (tgt := 150) dX12_tenthsOf_145 (by decide) ?_
                refine JJ_iret dX12_tenthsOf_150 rfl ?_
                exact ans_i (by first | (unfold s_tenths s_flight; (try rw [if_pos c10]); (try rw [if_neg c10]); (try rw [if_pos c11]); (try rw [if_neg c11]); (try rw [if_pos c21]); (try rw [if_neg c21]); (try rw [if_pos c23]); (try rw [if_neg c23]); (try rw [if_pos c24]); (try rw [if_neg c24]); (try rw [if_pos c25]); (try rw [if_neg c25]); (try rw [if_pos c27]); (try rw [if_neg c27]); (try rw [if_pos c10]); (try rw [if_neg c10]); (try rw [if_pos c11]); (try rw [if_neg c11]); (try rw [if_pos c21]); (try rw [if_neg c21]); (try rw [if_pos c23]); (try rw [if_neg c23]); (try rw [if_pos c24]); (try rw [if_neg c24]); (try rw [if_pos c25]); (try rw [if_neg c25]); (try rw [if_pos c27]); (try rw [if_neg c27]); done) | (exfalso; simp_all; done))
          · skip
            refine JJ_iload dX12_tenthsOf_115 rfl ?_
            refine JJ_bipush (v := 10) dX12_tenthsOf_117 rfl ?_
            refine JJ_iadd dX12_tenthsOf_119 ?_
            refine JJ_goto (tgt := 137) dX12_tenthsOf_120 (by decide) ?_
            refine JJ_istore (lv' := [(8, .int (((s_within (E 0 (s_far (M (o + 4) p) (s_comes (M (o + 8) k) (M (o + 10) k) (M (o + 4) p))) (M o 11) (M (o + 5) p) (M (o + 6) p) (M (o + 9) k) (s_comes (M (o + 8) k) (M (o + 10) k) (M (o + 4) p))) 0 99) + (M (o + 9) k)) + 10)), (7, .int ((s_within (E 0 (s_far (M (o + 4) p) (s_comes (M (o + 8) k) (M (o + 10) k) (M (o + 4) p))) (M o 11) (M (o + 5) p) (M (o + 6) p) (M (o + 9) k) (s_comes (M (o + 8) k) (M (o + 10) k) (M (o + 4) p))) 0 99) + (M (o + 9) k))), (6, .int ((s_within (E 0 (s_far (M (o + 4) p) (s_comes (M (o + 8) k) (M (o + 10) k) (M (o + 4) p))) (M o 11) (M (o + 5) p) (M (o + 6) p) (M (o + 9) k) (s_comes (M (o + 8) k) (M (o + 10) k) (M (o + 4) p))) 0 99) / 2)), (5, .int (s_within (E 0 (s_far (M (o + 4) p) (s_comes (M (o + 8) k) (M (o + 10) k) (M (o + 4) p))) (M o 11) (M (o + 5) p) (M (o + 6) p) (M (o + 9) k) (s_comes (M (o + 8) k) (M (o + 10) k) (M (o + 4) p))) 0 99)), (4, .int (s_comes (M (o + 8) k) (M (o + 10) k) (M (o + 4) p))), (3, .int (M (o + 8) k)), (0, .ref o), (1, .int (nI p)), (2, .int (nI k))]) dX12_tenthsOf_137 (by decide) rfl ?_
            refine JJ_iload dX12_tenthsOf_139 rfl ?_
            refine JJ_if_ge (tgt := 148) dX12_tenthsOf_141 (by decide) (fun c28 => ?_) (fun c28 => ?_)
            · skip
              refine JJ_iload dX12_tenthsOf_148 rfl ?_
              refine JJ_iret dX12_tenthsOf_150 rfl ?_
              exact ans_i (by first | (unfold s_tenths s_flight; (try rw [if_pos c10]); (try rw [if_neg c10]); (try rw [if_pos c11]); (try rw [if_neg c11]); (try rw [if_pos c21]); (try rw [if_neg c21]); (try rw [if_pos c23]); (try rw [if_neg c23]); (try rw [if_pos c24]); (try rw [if_neg c24]); (try rw [if_pos c28]); (try rw [if_neg c28]); (try rw [if_pos c10]); (try rw [if_neg c10]); (try rw [if_pos c11]); (try rw [if_neg c11]); (try rw [if_pos c21]); (try rw [if_neg c21]); (try rw [if_pos c23]); (try rw [if_neg c23]); (try rw [if_pos c24]); (try rw [if_neg c24]); (try rw [if_pos c28]); (try rw [if_neg c28]); done) | (exfalso; simp_all; done))
            · skip
              refine JJ_iconst (v := 0) dX12_tenthsOf_144 rfl ?_
              refine JJ_goto (tgt := 150) dX12_tenthsOf_145 (by decide) ?_
              refine JJ_iret dX12_tenthsOf_150 rfl ?_
              exact ans_i (by first | (unfold s_tenths s_flight; (try rw [if_pos c10]); (try rw [if_neg c10]); (try rw [if_pos c11]); (try rw [if_neg c11]); (try rw [if_pos c21]); (try rw [if_neg c21]); (try rw [if_pos c23]); (try rw [if_neg c23]); (try rw [if_pos c24]); (try rw [if_neg c24]); (try rw [if_pos c28]); (try rw [if_neg c28]); (try rw [if_pos c10]); (try rw [if_neg c10]); (try rw [if_pos c11]); (try rw [if_neg c11]); (try rw [if_pos c21]); (try rw [if_neg c21]); (try rw [if_pos c23]); (try rw [if_neg c23]); (try rw [if_pos c24]); (try rw [if_neg c24]); (try rw [if_pos c28]); (try rw [if_neg c28]); done) | (exfalso; simp_all; done))
        · skip
          refine JJ_iload_n dX12_tenthsOf_84 rfl rfl ?_
          refine JJ_iconst (v := 4) dX12_tenthsOf_85 rfl ?_
          refine JJ_icmp_ne (tgt := 96) dX12_tenthsOf_86 (by decide) (fun c29 => ?_) (fun c29 => ?_)
          · skip
            refine JJ_iload dX12_tenthsOf_96 rfl ?_
            refine JJ_iret dX12_tenthsOf_98 rfl ?_
            exact ans_i (by first | (unfold s_tenths s_flight; (try rw [if_pos c10]); (try rw [if_neg c10]); (try rw [if_pos c11]); (try rw [if_neg c11]); (try rw [if_pos c21]); (try rw [if_neg c21]); (try rw [if_pos c23]); (try rw [if_neg c23]); (try rw [if_pos c29]); (try rw [if_neg c29]); (try rw [if_pos c10]); (try rw [if_neg c10]); (try rw [if_pos c11]); (try rw [if_neg c11]); (try rw [if_pos c21]); (try rw [if_neg c21]); (try rw [if_pos c23]); (try rw [if_neg c23]); (try rw [if_pos c29]); (try rw [if_neg c29]); done) | (exfalso; simp_all; done))
          · skip
            refine JJ_iload dX12_tenthsOf_89 rfl ?_
            refine JJ_iconst (v := 3) dX12_tenthsOf_91 rfl ?_
            refine JJ_iadd dX12_tenthsOf_92 ?_
            refine JJ_goto (tgt := 98) dX12_tenthsOf_93 (by decide) ?_
            refine JJ_iret dX12_tenthsOf_98 rfl ?_
            exact ans_i (by first | (unfold s_tenths s_flight; (try rw [if_pos c10]); (try rw [if_neg c10]); (try rw [if_pos c11]); (try rw [if_neg c11]); (try rw [if_pos c21]); (try rw [if_neg c21]); (try rw [if_pos c23]); (try rw [if_neg c23]); (try rw [if_pos c29]); (try rw [if_neg c29]); (try rw [if_pos c10]); (try rw [if_neg c10]); (try rw [if_pos c11]); (try rw [if_neg c11]); (try rw [if_pos c21]); (try rw [if_neg c21]); (try rw [if_pos c23]); (try rw [if_neg c23]); (try rw [if_pos c29]); (try rw [if_neg c29]); done) | (exfalso; simp_all; done))
  · skip
    refine JJ_iload dX12_tenthsOf_51 rfl ?_
    refine JJ_iret dX12_tenthsOf_53 rfl ?_
    exact ans_i (by first | (unfold s_tenths s_flight; (try rw [if_pos c10]); (try rw [if_neg c10]); (try rw [if_pos c10]); (try rw [if_neg c10]); done) | (exfalso; simp_all; done))
set_option maxHeartbeats 4000000 in
set_option maxRecDepth 100000 in
theorem kr_slips {p k : Nat} {E : RuleF} (hp : p < 2) (hk : k < 6) (hR : RWF o S P) (hN : HSR o sc) (hE : RTX o M E) : KK G sc yX12_slipsOf cX12_slipsOf 4 (some .int) 61 0 0 [.ref o, .int (nI p), .int (nI k)] (n, S, M, L, P) (ansI (s_slips E (M o 11) (M (o + 5) p) (M (o + 6) p) (M (o + 9) k) (M (o + 4) p) (s_comes (M (o + 8) k) (M (o + 10) k) (M (o + 4) p))) (n, S, M, L, P)) := by
  refine KK_of2 [(0, .ref o), (1, .int (nI p)), (2, .int (nI k))] (by decide +kernel) (Nat.le_of_ble_eq_true rfl) rfl ?_
  refine JJ_aload_n dX12_slipsOf_0 rfl rfl ?_
  refine JJ_iload_n dX12_slipsOf_1 rfl rfl ?_
  refine JJ_aload_n dX12_slipsOf_2 rfl rfl ?_
  refine JJ_getr (q := o + 4) (cis := [12]) (k := 7) fa_X12_23 (by decide) hR.1 rfl (hR.2 (7, 4, 20, 2) (by decide)).1 dX12_slipsOf_3 ?_
  refine JJ_iload_n dX12_slipsOf_6 rfl rfl ?_
  refine JJ_ialdX (v := M (o + 4) p) (hR.2 (7, 4, 20, 2) (by decide)).2 (IX_nI (by omega) (by omega)) (hN.2.1 4 _ (by decide) (by decide)) rfl dX12_slipsOf_7 ?_
  refine JJ_callV (rest := []) hR.1 rfl rfl (kr_comes (fr := M (o + 4) p) hk hR hN) (by decide) mi_X12_comesTo lk_X12_252 rfl (Nat.le_of_ble_eq_true rfl) rfl rfl dX12_slipsOf_8 ?_
  intro v1 μ2 h3
  obtain ⟨rfl, rfl⟩ := h3
  refine JJ_r1 ?_
  refine JJ_istore_n (lv' := [(3, .int (s_comes (M (o + 8) k) (M (o + 10) k) (M (o + 4) p))), (0, .ref o), (1, .int (nI p)), (2, .int (nI k))]) dX12_slipsOf_11 rfl (by decide) rfl ?_
  refine JJ_aload_n dX12_slipsOf_12 rfl rfl ?_
  refine JJ_iconst (v := 2) dX12_slipsOf_13 rfl ?_
  refine JJ_iload_n dX12_slipsOf_14 rfl rfl ?_
  refine JJ_aload_n dX12_slipsOf_15 rfl rfl ?_
  refine JJ_getr (q := o + 4) (cis := [12]) (k := 7) fa_X12_23 (by decide) hR.1 rfl (hR.2 (7, 4, 20, 2) (by decide)).1 dX12_slipsOf_16 ?_
  refine JJ_iload_n dX12_slipsOf_19 rfl rfl ?_
  refine JJ_ialdX (v := M (o + 4) p) (hR.2 (7, 4, 20, 2) (by decide)).2 (IX_nI (by omega) (by omega)) (hN.2.1 4 _ (by decide) (by decide)) rfl dX12_slipsOf_20 ?_
  refine JJ_iload_n dX12_slipsOf_21 rfl rfl ?_
  refine JJ_callS (rest := [.int (nI p), .int 2, .ref o]) (kr_far (a := M (o + 4) p) (b := s_comes (M (o + 8) k) (M (o + 10) k) (M (o + 4) p))) (by decide) mi_X12_farOf lk_X12_255 rfl (Nat.le_of_ble_eq_true rfl) rfl rfl dX12_slipsOf_22 ?_
  intro v4 μ5 h6
  obtain ⟨rfl, rfl⟩ := h6
  refine JJ_r1 ?_
  refine JJ_aload_n dX12_slipsOf_25 rfl rfl ?_
  refine JJ_getr (q := o + 9) (cis := [12]) (k := 13) fa_X12_38 (by decide) hR.1 rfl (hR.2 (13, 9, 20, 6) (by decide)).1 dX12_slipsOf_26 ?_
  refine JJ_iload_n dX12_slipsOf_29 rfl rfl ?_
  refine JJ_ialdX (v := M (o + 9) k) (hR.2 (13, 9, 20, 6) (by decide)).2 (IX_nI (by omega) (by omega)) (hN.2.1 9 _ (by decide) (by decide)) rfl dX12_slipsOf_30 ?_
  refine JJ_iload_n dX12_slipsOf_31 rfl rfl ?_
  refine JJ_callV (rest := []) hR.1 rfl rfl (kr_says (w := 2) (E := E) (far := s_far (M (o + 4) p) (s_comes (M (o + 8) k) (M (o + 10) k) (M (o + 4) p))) (number := M (o + 9) k) (cell := s_comes (M (o + 8) k) (M (o + 10) k) (M (o + 4) p)) (by decide) rfl hp hR hN hE) (by decide) mi_X12_says lk_X12_258 rfl (Nat.le_of_ble_eq_true rfl) rfl rfl dX12_slipsOf_32 ?_
  intro v7 μ8 h9
  obtain ⟨rfl, rfl⟩ := h9
  refine JJ_r1 ?_
  refine JJ_iret dX12_slipsOf_35 rfl ?_
  exact ans_i rfl
set_option maxHeartbeats 4000000 in
set_option maxRecDepth 100000 in
theorem kr_tire {p : Nat} {x : Int32} (hp : p < 2) (hR : RWF o S P) (hN : HSR o sc) : KK G sc yX12_tire cX12_tire 3 none 1 0 0 [.ref o, .int (nI p), .int x] (n, S, M, L, P) (ansV (n, S, up2 M (o + 5) p (s_within (M (o + 5) p - x) 0 999), L, P)) := by
  refine KK_of2 [(0, .ref o), (1, .int (nI p)), (2, .int x)] (by decide +kernel) (Nat.le_of_ble_eq_true rfl) rfl ?_
  refine JJ_aload_n dX12_tire_0 rfl rfl ?_
  refine JJ_getr (q := o + 5) (cis := [12]) (k := 8) fa_X12_26 (by decide) hR.1 rfl (hR.2 (8, 5, 20, 2) (by decide)).1 dX12_tire_1 ?_
  refine JJ_iload_n dX12_tire_4 rfl rfl ?_
  refine JJ_aload_n dX12_tire_5 rfl rfl ?_
  refine JJ_getr (q := o + 5) (cis := [12]) (k := 8) fa_X12_26 (by decide) hR.1 rfl (hR.2 (8, 5, 20, 2) (by decide)).1 dX12_tire_6 ?_
  refine JJ_iload_n dX12_tire_9 rfl rfl ?_
  refine JJ_ialdX (v := M (o + 5) p) (hR.2 (8, 5, 20, 2) (by decide)).2 (IX_nI (by omega) (by omega)) (hN.2.1 5 _ (by decide) (by decide)) rfl dX12_tire_10 ?_
  refine JJ_iload_n dX12_tire_11 rfl rfl ?_
  refine JJ_isub dX12_tire_12 ?_
  refine JJ_iconst (v := 0) dX12_tire_13 rfl ?_
  refine JJ_sipush (v := 999) dX12_tire_14 rfl ?_
  refine JJ_callS (rest := [.int (nI p), .ref (o + 5)]) (kr_within (v := (M (o + 5) p) - x) (lo := 0) (hi := 999)) (by decide) mi_X12_within lk_X12_242 rfl (Nat.le_of_ble_eq_true rfl) rfl rfl dX12_tire_17 ?_
  intro v1 μ2 h3
  obtain ⟨rfl, rfl⟩ := h3
  refine JJ_r1 ?_
  refine JJ_iastX (hR.2 (8, 5, 20, 2) (by decide)).2 (IX_nI (by omega) (by omega)) dX12_tire_20 (fun M4 hM5 => ?_)
  refine JJ_vret dX12_tire_21 rfl ?_
  exact ⟨rfl, mem_eq hM5⟩
set_option maxHeartbeats 4000000 in
set_option maxRecDepth 100000 in
theorem kr_strikes {p k : Nat} {E : RuleF} (hp : p < 2) (hk : k < 6) (hR : RWF o S P) (hN : HSR o sc) (hE : RTX o M E) : KK G sc yX12_strikes cX12_strikes 5 (some .boolean) 62 0 0 [.ref o, .int (nI p), .int (nI k)] (n, S, M, L, P) (ansI (b2 (s_win E (M (o + 6)) (M (o + 8) k) (M (o + 9) k) (M (o + 10) k) p (rGet o M))) (n, S, up2 (rPut o M (s_after E (M (o + 6)) (M (o + 7)) (M (o + 8) k) (M (o + 9) k) (M (o + 10) k) p (rGet o M))) o 31 (s_to (M (o + 8) k) (M (o + 10) k) p (rGet o M)), L, P)) := by
  refine KK_of2 [(0, .ref o), (1, .int (nI p)), (2, .int (nI k))] (by decide +kernel) (Nat.le_of_ble_eq_true rfl) rfl ?_
  refine JJ_iconst (v := 1) dX12_strikes_0 rfl ?_
  refine JJ_iload_n dX12_strikes_1 rfl rfl ?_
  refine JJ_isub dX12_strikes_2 ?_
  refine JJ_eqi (x2 := nI (1 - p)) (e_sub1 hp) ?_
  refine JJ_istore_n (lv' := [(3, .int (nI (1 - p))), (0, .ref o), (1, .int (nI p)), (2, .int (nI k))]) dX12_strikes_3 rfl (by decide) rfl ?_
  refine JJ_aload_n dX12_strikes_4 rfl rfl ?_
  refine JJ_aload_n dX12_strikes_5 rfl rfl ?_
  refine JJ_iload_n dX12_strikes_6 rfl rfl ?_
  refine JJ_aload_n dX12_strikes_7 rfl rfl ?_
  refine JJ_getr (q := o + 4) (cis := [12]) (k := 7) fa_X12_23 (by decide) hR.1 rfl (hR.2 (7, 4, 20, 2) (by decide)).1 dX12_strikes_8 ?_
  refine JJ_iload_n dX12_strikes_11 rfl rfl ?_
  refine JJ_ialdX (v := M (o + 4) p) (hR.2 (7, 4, 20, 2) (by decide)).2 (IX_nI (by omega) (by omega)) (hN.2.1 4 _ (by decide) (by decide)) rfl dX12_strikes_12 ?_
  refine JJ_callV (rest := [.ref o]) hR.1 rfl rfl (kr_comes (fr := M (o + 4) p) hk hR hN) (by decide) mi_X12_comesTo lk_X12_252 rfl (Nat.le_of_ble_eq_true rfl) rfl rfl dX12_strikes_13 ?_
  intro v1 μ2 h3
  obtain ⟨rfl, rfl⟩ := h3
  refine JJ_r1 ?_
  refine JJ_puti (cis := [12]) (k := 31) fa_X12_276 (by decide) hR.1 rfl (fun r hr => by cases hr; exact ⟨rfl, by decide +kernel⟩) dX12_strikes_16 (fun M4 hM5 => ?_)
  refine JJ_aload_n dX12_strikes_19 rfl rfl ?_
  refine JJ_iload_n dX12_strikes_20 rfl rfl ?_
  refine JJ_iload_n dX12_strikes_21 rfl rfl ?_
  refine JJ_callV (rest := []) hR.1 rfl rfl (kr_tenths (E := E) hp hk hR hN (hE.keep (rd_a hM5 (by omega) rfl) (rd_a hM5 (by omega) rfl) (rd_n hM5 (by omega) rfl))) (by decide) mi_X12_tenthsOf lk_X12_267 rfl (Nat.le_of_ble_eq_true rfl) rfl rfl dX12_strikes_22 ?_
  intro v6 μ7 h8
  obtain ⟨rfl, rfl⟩ := h8
  refine JJ_r1 ?_
  refine JJ_eqi (x2 := s_tenths E (M o 11) (M (o + 5) p) (M (o + 6) p) (M (o + 8) k) (M (o + 9) k) (M (o + 4) p) (s_comes (M (o + 8) k) (M (o + 10) k) (M (o + 4) p))) (by rw [(rd_n hM5 (by omega) rfl), (rd_n hM5 (by omega) rfl), (rd_n hM5 (by omega) rfl), (rd_n hM5 (by omega) rfl), (rd_n hM5 (by omega) rfl), (rd_n hM5 (by omega) rfl), (rd_n hM5 (by omega) rfl)]) ?_
  refine JJ_istore (lv' := [(4, .int (s_tenths E (M o 11) (M (o + 5) p) (M (o + 6) p) (M (o + 8) k) (M (o + 9) k) (M (o + 4) p) (s_comes (M (o + 8) k) (M (o + 10) k) (M (o + 4) p)))), (3, .int (nI (1 - p))), (0, .ref o), (1, .int (nI p)), (2, .int (nI k))]) dX12_strikes_25 (by decide) rfl ?_
  refine JJ_aload_n dX12_strikes_27 rfl rfl ?_
  refine JJ_iload_n dX12_strikes_28 rfl rfl ?_
  refine JJ_aload_n dX12_strikes_29 rfl rfl ?_
  refine JJ_iload_n dX12_strikes_30 rfl rfl ?_
  refine JJ_callV (rest := [.int (nI p), .ref o]) hR.1 rfl rfl (kr_spends hk hR hN) (by decide) mi_X12_spendsOf lk_X12_273 rfl (Nat.le_of_ble_eq_true rfl) rfl rfl dX12_strikes_31 ?_
  intro v9 μ10 h11
  obtain ⟨rfl, rfl⟩ := h11
  refine JJ_r1 ?_
  refine JJ_eqi (x2 := s_spends (M (o + 8) k) (M (o + 9) k)) (by rw [(rd_n hM5 (by omega) rfl), (rd_n hM5 (by omega) rfl)]) ?_
  refine JJ_callV (rest := []) hR.1 rfl rfl (kr_tire (x := s_spends (M (o + 8) k) (M (o + 9) k)) hp hR hN) (by decide) mi_X12_tire lk_X12_279 rfl (Nat.le_of_ble_eq_true rfl) rfl rfl dX12_strikes_34 ?_
  intro v12 μ13 h14
  obtain ⟨rfl, rfl⟩ := h14
  refine JJ_r0 ?_
  refine JJ_nm (fun M15 hM16 => ?_)
  rw [(rd_n hM5 (by omega) rfl)] at hM16
  refine JJ_aload_n dX12_strikes_37 rfl rfl ?_
  refine JJ_iload_n dX12_strikes_38 rfl rfl ?_
  refine JJ_aload_n dX12_strikes_39 rfl rfl ?_
  refine JJ_getr (q := o + 4) (cis := [12]) (k := 7) fa_X12_23 (by decide) hR.1 rfl (hR.2 (7, 4, 20, 2) (by decide)).1 dX12_strikes_40 ?_
  refine JJ_iload_n dX12_strikes_43 rfl rfl ?_
  refine JJ_ialdX (v := M (o + 4) (1 - p)) (hR.2 (7, 4, 20, 2) (by decide)).2 (IX_nI (by omega) (by omega)) (hN.2.1 4 _ (by decide) (by decide)) (rd_n hM16 (by omega) (rd_n hM5 (by omega) rfl)) dX12_strikes_44 ?_
  refine JJ_aload_n dX12_strikes_45 rfl rfl ?_
  refine JJ_geti (v := s_comes (M (o + 8) k) (M (o + 10) k) (M (o + 4) p)) (cis := [12]) (k := 31) fa_X12_276 (by decide) hR.1 rfl (hN.1 31 (by decide)) (rd_n hM16 (by omega) (rd_s hM5)) dX12_strikes_46 ?_
  refine JJ_callV (rest := []) hR.1 rfl rfl (kr_needs (E := E) (fr := M (o + 4) (1 - p)) (to := s_comes (M (o + 8) k) (M (o + 10) k) (M (o + 4) p)) (by omega) hR hN (hE.keep (rd_a hM16 (by omega) (rd_a hM5 (by omega) rfl)) (rd_a hM16 (by omega) (rd_a hM5 (by omega) rfl)) (rd_n hM16 (by omega) (rd_n hM5 (by omega) rfl)))) (by decide) mi_X12_needsOf lk_X12_264 rfl (Nat.le_of_ble_eq_true rfl) rfl rfl dX12_strikes_49 ?_
  intro v17 μ18 h19
  obtain ⟨rfl, rfl⟩ := h19
  refine JJ_r1 ?_
  refine JJ_eqi (x2 := s_needs E (M o 11) (M (o + 5) (1 - p)) (M (o + 6) (1 - p)) (M (o + 4) (1 - p)) (s_comes (M (o + 8) k) (M (o + 10) k) (M (o + 4) p))) (by rw [(rd_n hM16 (by omega) (rd_n hM5 (by omega) rfl)), (rd_n hM16 (by omega) (rd_n hM5 (by omega) rfl)), (rd_n hM16 (by omega) (rd_n hM5 (by omega) rfl))]) ?_
  refine JJ_iload dX12_strikes_52 rfl ?_
  refine JJ_icmp_le (tgt := 59) dX12_strikes_54 (by decide) (fun c20 => ?_) (fun c20 => ?_)
  · skip
    refine JJ_aload_n dX12_strikes_59 rfl rfl ?_
    refine JJ_iload_n dX12_strikes_60 rfl rfl ?_
    refine JJ_aload_n dX12_strikes_61 rfl rfl ?_
    refine JJ_getr (q := o + 4) (cis := [12]) (k := 7) fa_X12_23 (by decide) hR.1 rfl (hR.2 (7, 4, 20, 2) (by decide)).1 dX12_strikes_62 ?_
    refine JJ_iload_n dX12_strikes_65 rfl rfl ?_
    refine JJ_ialdX (v := M (o + 4) (1 - p)) (hR.2 (7, 4, 20, 2) (by decide)).2 (IX_nI (by omega) (by omega)) (hN.2.1 4 _ (by decide) (by decide)) (rd_n hM16 (by omega) (rd_n hM5 (by omega) rfl)) dX12_strikes_66 ?_
    refine JJ_aload_n dX12_strikes_67 rfl rfl ?_
    refine JJ_geti (v := s_comes (M (o + 8) k) (M (o + 10) k) (M (o + 4) p)) (cis := [12]) (k := 31) fa_X12_276 (by decide) hR.1 rfl (hN.1 31 (by decide)) (rd_n hM16 (by omega) (rd_s hM5)) dX12_strikes_68 ?_
    refine JJ_callS (rest := [.int (nI (1 - p)), .ref o]) (kr_far (a := M (o + 4) (1 - p)) (b := s_comes (M (o + 8) k) (M (o + 10) k) (M (o + 4) p))) (by decide) mi_X12_farOf lk_X12_255 rfl (Nat.le_of_ble_eq_true rfl) rfl rfl dX12_strikes_71 ?_
    intro v21 μ22 h23
    obtain ⟨rfl, rfl⟩ := h23
    refine JJ_r1 ?_
    refine JJ_callV (rest := []) hR.1 rfl rfl (kr_tire (x := s_far (M (o + 4) (1 - p)) (s_comes (M (o + 8) k) (M (o + 10) k) (M (o + 4) p))) (by omega) hR hN) (by decide) mi_X12_tire lk_X12_279 rfl (Nat.le_of_ble_eq_true rfl) rfl rfl dX12_strikes_74 ?_
    intro v24 μ25 h26
    obtain ⟨rfl, rfl⟩ := h26
    refine JJ_r0 ?_
    refine JJ_nm (fun M27 hM28 => ?_)
    rw [(rd_n hM16 (by omega) (rd_n hM5 (by omega) rfl))] at hM28
    refine JJ_aload_n dX12_strikes_77 rfl rfl ?_
    refine JJ_getr (q := o + 4) (cis := [12]) (k := 7) fa_X12_23 (by decide) hR.1 rfl (hR.2 (7, 4, 20, 2) (by decide)).1 dX12_strikes_78 ?_
    refine JJ_iload_n dX12_strikes_81 rfl rfl ?_
    refine JJ_aload_n dX12_strikes_82 rfl rfl ?_
    refine JJ_geti (v := s_comes (M (o + 8) k) (M (o + 10) k) (M (o + 4) p)) (cis := [12]) (k := 31) fa_X12_276 (by decide) hR.1 rfl (hN.1 31 (by decide)) (rd_n hM28 (by omega) (rd_n hM16 (by omega) (rd_s hM5))) dX12_strikes_83 ?_
    refine JJ_iastX (hR.2 (7, 4, 20, 2) (by decide)).2 (IX_nI (by omega) (by omega)) dX12_strikes_86 (fun M29 hM30 => ?_)
    refine JJ_aload_n dX12_strikes_87 rfl rfl ?_
    refine JJ_getr (q := o + 7) (cis := [12]) (k := 10) fa_X12_32 (by decide) hR.1 rfl (hR.2 (10, 7, 20, 2) (by decide)).1 dX12_strikes_88 ?_
    refine JJ_iload_n dX12_strikes_91 rfl rfl ?_
    refine JJ_ialdX (v := M (o + 7) p) (hR.2 (10, 7, 20, 2) (by decide)).2 (IX_nI (by omega) (by omega)) (hN.2.1 7 _ (by decide) (by decide)) (rd_n hM30 (by omega) (rd_n hM28 (by omega) (rd_n hM16 (by omega) (rd_n hM5 (by omega) rfl)))) dX12_strikes_92 ?_
    refine JJ_iconst (v := (-1)) dX12_strikes_93 rfl ?_
    refine JJ_icmp_eq (tgt := 151) dX12_strikes_94 (by decide) (fun c31 => ?_) (fun c31 => ?_)
    · skip
      refine JJ_aload_n dX12_strikes_151 rfl rfl ?_
      refine JJ_aload_n dX12_strikes_152 rfl rfl ?_
      refine JJ_geti (v := M o 11) (cis := [12]) (k := 11) fa_X12_109 (by decide) hR.1 rfl (hN.1 11 (by decide)) (rd_n hM30 (by omega) (rd_n hM28 (by omega) (rd_n hM16 (by omega) (rd_n hM5 (by omega) rfl)))) dX12_strikes_153 ?_
      refine JJ_iconst (v := 1) dX12_strikes_156 rfl ?_
      refine JJ_iadd dX12_strikes_157 ?_
      refine JJ_iconst (v := 0) dX12_strikes_158 rfl ?_
      refine JJ_bipush (v := 99) dX12_strikes_159 rfl ?_
      refine JJ_callS (rest := [.ref o]) (kr_within (v := (M o 11) + 1) (lo := 0) (hi := 99)) (by decide) mi_X12_within lk_X12_242 rfl (Nat.le_of_ble_eq_true rfl) rfl rfl dX12_strikes_161 ?_
      intro v32 μ33 h34
      obtain ⟨rfl, rfl⟩ := h34
      refine JJ_r1 ?_
      refine JJ_puti (cis := [12]) (k := 11) fa_X12_109 (by decide) hR.1 rfl (fun r hr => by cases hr; exact ⟨rfl, by decide +kernel⟩) dX12_strikes_164 (fun M35 hM36 => ?_)
      refine JJ_iconst (v := 0) dX12_strikes_167 rfl ?_
      refine JJ_zret dX12_strikes_168 rfl (Or.inl rfl) ?_
      have hq : 1 - p < 2 := by omega
      have hw : ¬ s_win E (M (o + 6)) (M (o + 8) k) (M (o + 9) k) (M (o + 10) k) p (rGet o M) := by unfold s_win s_t s_to; simp only [rg0 hp, rg0 hq, rg1 hp, rg1 hq, rg4]; exact i_nlt c20
      have hh : ¬ s_home E (M (o + 6)) (M (o + 7)) (M (o + 8) k) (M (o + 9) k) (M (o + 10) k) p (rGet o M) := fun z => z.1 c31
      exact ans_i2 (b2_f hw).symm (mem_eq (strikes_eq p hp ((rd_n hM36 (by omega) (rd_n hM30 (by omega) (rd_n hM28 (by omega) (rd_n hM16 (by omega) (rd_s hM5))))).trans (by unfold s_to; rw [rg0 hp])) ((rd_n hM36 (by omega) (rd_n hM30 (by omega) (rd_n hM28 (by omega) (rd_n hM16 (by omega) (rd_n hM5 (by omega) rfl))))).trans (by rw [(sa_n hw hp).2.1, if_neg hh]; try rw [rg0 hp])) ((rd_n hM36 (by omega) (rd_s hM30)).trans (by rw [(sa_n hw hp).2.2.1]; unfold s_to; rw [rg0 hp])) ((rd_n hM36 (by omega) (rd_n hM30 (by omega) (rd_n hM28 (by omega) (rd_s hM16)))).trans (by rw [(sa_n hw hp).2.2.2.1, if_neg hh]; unfold s_legs1; rw [rg1 hp]; try rw [rg0 hp])) ((rd_n hM36 (by omega) (rd_n hM30 (by omega) (rd_s hM28))).trans (by rw [(sa_n hw hp).2.2.2.2]; unfold s_to; rw [rg1 hq, rg0 hp, rg0 hq])) ((rd_s hM36).trans (by rw [(sa_n hw hp).1, rg4])) (fun b j z0 z1 z2 z3 => by refine rd_n hM36 (by omega) ?_; refine rd_n hM30 (by omega) ?_; refine rd_n hM28 (by omega) ?_; refine rd_n hM16 (by omega) ?_; refine rd_n hM5 (by omega) ?_; rfl)))
    · skip
      refine JJ_aload_n dX12_strikes_97 rfl rfl ?_
      refine JJ_iload_n dX12_strikes_98 rfl rfl ?_
      refine JJ_aload_n dX12_strikes_99 rfl rfl ?_
      refine JJ_getr (q := o + 4) (cis := [12]) (k := 7) fa_X12_23 (by decide) hR.1 rfl (hR.2 (7, 4, 20, 2) (by decide)).1 dX12_strikes_100 ?_
      refine JJ_iload_n dX12_strikes_103 rfl rfl ?_
      refine JJ_ialdX (v := M (o + 4) p) (hR.2 (7, 4, 20, 2) (by decide)).2 (IX_nI (by omega) (by omega)) (hN.2.1 4 _ (by decide) (by decide)) (rd_n hM30 (by omega) (rd_n hM28 (by omega) (rd_n hM16 (by omega) (rd_n hM5 (by omega) rfl)))) dX12_strikes_104 ?_
      refine JJ_aload_n dX12_strikes_105 rfl rfl ?_
      refine JJ_getr (q := o + 7) (cis := [12]) (k := 10) fa_X12_32 (by decide) hR.1 rfl (hR.2 (10, 7, 20, 2) (by decide)).1 dX12_strikes_106 ?_
      refine JJ_iload_n dX12_strikes_109 rfl rfl ?_
      refine JJ_ialdX (v := M (o + 7) p) (hR.2 (10, 7, 20, 2) (by decide)).2 (IX_nI (by omega) (by omega)) (hN.2.1 7 _ (by decide) (by decide)) (rd_n hM30 (by omega) (rd_n hM28 (by omega) (rd_n hM16 (by omega) (rd_n hM5 (by omega) rfl)))) dX12_strikes_110 ?_
      refine JJ_callV (rest := []) hR.1 rfl rfl (kr_needs (E := E) (fr := M (o + 4) p) (to := M (o + 7) p) hp hR hN (hE.keep (rd_a hM30 (by omega) (rd_a hM28 (by omega) (rd_a hM16 (by omega) (rd_a hM5 (by omega) rfl)))) (rd_a hM30 (by omega) (rd_a hM28 (by omega) (rd_a hM16 (by omega) (rd_a hM5 (by omega) rfl)))) (rd_n hM30 (by omega) (rd_n hM28 (by omega) (rd_n hM16 (by omega) (rd_n hM5 (by omega) rfl)))))) (by decide) mi_X12_needsOf lk_X12_264 rfl (Nat.le_of_ble_eq_true rfl) rfl rfl dX12_strikes_111 ?_
      intro v37 μ38 h39
      obtain ⟨rfl, rfl⟩ := h39
      refine JJ_r1 ?_
      refine JJ_eqi (x2 := s_needs E (M o 11) (s_within (M (o + 5) p - (s_spends (M (o + 8) k) (M (o + 9) k))) 0 999) (M (o + 6) p) (M (o + 4) p) (M (o + 7) p)) (by rw [(rd_n hM30 (by omega) (rd_n hM28 (by omega) (rd_n hM16 (by omega) (rd_n hM5 (by omega) rfl)))), (rd_n hM30 (by omega) (rd_n hM28 (by omega) (rd_s hM16))), (rd_n hM30 (by omega) (rd_n hM28 (by omega) (rd_n hM16 (by omega) (rd_n hM5 (by omega) rfl))))]) ?_
      refine JJ_iload dX12_strikes_114 rfl ?_
      refine JJ_icmp_gt (tgt := 151) dX12_strikes_116 (by decide) (fun c40 => ?_) (fun c40 => ?_)
      · skip
        refine JJ_aload_n dX12_strikes_151 rfl rfl ?_
        refine JJ_aload_n dX12_strikes_152 rfl rfl ?_
        refine JJ_geti (v := M o 11) (cis := [12]) (k := 11) fa_X12_109 (by decide) hR.1 rfl (hN.1 11 (by decide)) (rd_n hM30 (by omega) (rd_n hM28 (by omega) (rd_n hM16 (by omega) (rd_n hM5 (by omega) rfl)))) dX12_strikes_153 ?_
        refine JJ_iconst (v := 1) dX12_strikes_156 rfl ?_
        refine JJ_iadd dX12_strikes_157 ?_
        refine JJ_iconst (v := 0) dX12_strikes_158 rfl ?_
        refine JJ_bipush (v := 99) dX12_strikes_159 rfl ?_
        refine JJ_callS (rest := [.ref o]) (kr_within (v := (M o 11) + 1) (lo := 0) (hi := 99)) (by decide) mi_X12_within lk_X12_242 rfl (Nat.le_of_ble_eq_true rfl) rfl rfl dX12_strikes_161 ?_
        intro v41 μ42 h43
        obtain ⟨rfl, rfl⟩ := h43
        refine JJ_r1 ?_
        refine JJ_puti (cis := [12]) (k := 11) fa_X12_109 (by decide) hR.1 rfl (fun r hr => by cases hr; exact ⟨rfl, by decide +kernel⟩) dX12_strikes_164 (fun M44 hM45 => ?_)
        refine JJ_iconst (v := 0) dX12_strikes_167 rfl ?_
        refine JJ_zret dX12_strikes_168 rfl (Or.inl rfl) ?_
        have hq : 1 - p < 2 := by omega
        have hw : ¬ s_win E (M (o + 6)) (M (o + 8) k) (M (o + 9) k) (M (o + 10) k) p (rGet o M) := by unfold s_win s_t s_to; simp only [rg0 hp, rg0 hq, rg1 hp, rg1 hq, rg4]; exact i_nlt c20
        have hh : ¬ s_home E (M (o + 6)) (M (o + 7)) (M (o + 8) k) (M (o + 9) k) (M (o + 10) k) p (rGet o M) := by unfold s_home s_t s_to s_legs1; simp only [rg0 hp, rg0 hq, rg1 hp, rg1 hq, rg4]; exact fun z => i_nle2 c40 z.2
        exact ans_i2 (b2_f hw).symm (mem_eq (strikes_eq p hp ((rd_n hM45 (by omega) (rd_n hM30 (by omega) (rd_n hM28 (by omega) (rd_n hM16 (by omega) (rd_s hM5))))).trans (by unfold s_to; rw [rg0 hp])) ((rd_n hM45 (by omega) (rd_n hM30 (by omega) (rd_n hM28 (by omega) (rd_n hM16 (by omega) (rd_n hM5 (by omega) rfl))))).trans (by rw [(sa_n hw hp).2.1, if_neg hh]; try rw [rg0 hp])) ((rd_n hM45 (by omega) (rd_s hM30)).trans (by rw [(sa_n hw hp).2.2.1]; unfold s_to; rw [rg0 hp])) ((rd_n hM45 (by omega) (rd_n hM30 (by omega) (rd_n hM28 (by omega) (rd_s hM16)))).trans (by rw [(sa_n hw hp).2.2.2.1, if_neg hh]; unfold s_legs1; rw [rg1 hp]; try rw [rg0 hp])) ((rd_n hM45 (by omega) (rd_n hM30 (by omega) (rd_s hM28))).trans (by rw [(sa_n hw hp).2.2.2.2]; unfold s_to; rw [rg1 hq, rg0 hp, rg0 hq])) ((rd_s hM45).trans (by rw [(sa_n hw hp).1, rg4])) (fun b j z0 z1 z2 z3 => by refine rd_n hM45 (by omega) ?_; refine rd_n hM30 (by omega) ?_; refine rd_n hM28 (by omega) ?_; refine rd_n hM16 (by omega) ?_; refine rd_n hM5 (by omega) ?_; rfl)))
      · skip
        refine JJ_aload_n dX12_strikes_119 rfl rfl ?_
        refine JJ_iload_n dX12_strikes_120 rfl rfl ?_
        refine JJ_aload_n dX12_strikes_121 rfl rfl ?_
        refine JJ_getr (q := o + 4) (cis := [12]) (k := 7) fa_X12_23 (by decide) hR.1 rfl (hR.2 (7, 4, 20, 2) (by decide)).1 dX12_strikes_122 ?_
        refine JJ_iload_n dX12_strikes_125 rfl rfl ?_
        refine JJ_ialdX (v := M (o + 4) p) (hR.2 (7, 4, 20, 2) (by decide)).2 (IX_nI (by omega) (by omega)) (hN.2.1 4 _ (by decide) (by decide)) (rd_n hM30 (by omega) (rd_n hM28 (by omega) (rd_n hM16 (by omega) (rd_n hM5 (by omega) rfl)))) dX12_strikes_126 ?_
        refine JJ_aload_n dX12_strikes_127 rfl rfl ?_
        refine JJ_getr (q := o + 7) (cis := [12]) (k := 10) fa_X12_32 (by decide) hR.1 rfl (hR.2 (10, 7, 20, 2) (by decide)).1 dX12_strikes_128 ?_
        refine JJ_iload_n dX12_strikes_131 rfl rfl ?_
        refine JJ_ialdX (v := M (o + 7) p) (hR.2 (10, 7, 20, 2) (by decide)).2 (IX_nI (by omega) (by omega)) (hN.2.1 7 _ (by decide) (by decide)) (rd_n hM30 (by omega) (rd_n hM28 (by omega) (rd_n hM16 (by omega) (rd_n hM5 (by omega) rfl)))) dX12_strikes_132 ?_
        refine JJ_callS (rest := [.int (nI p), .ref o]) (kr_far (a := M (o + 4) p) (b := M (o + 7) p)) (by decide) mi_X12_farOf lk_X12_255 rfl (Nat.le_of_ble_eq_true rfl) rfl rfl dX12_strikes_133 ?_
        intro v46 μ47 h48
        obtain ⟨rfl, rfl⟩ := h48
        refine JJ_r1 ?_
        refine JJ_callV (rest := []) hR.1 rfl rfl (kr_tire (x := s_far (M (o + 4) p) (M (o + 7) p)) hp hR hN) (by decide) mi_X12_tire lk_X12_279 rfl (Nat.le_of_ble_eq_true rfl) rfl rfl dX12_strikes_136 ?_
        intro v49 μ50 h51
        obtain ⟨rfl, rfl⟩ := h51
        refine JJ_r0 ?_
        refine JJ_nm (fun M52 hM53 => ?_)
        rw [(rd_n hM30 (by omega) (rd_n hM28 (by omega) (rd_s hM16)))] at hM53
        refine JJ_aload_n dX12_strikes_139 rfl rfl ?_
        refine JJ_getr (q := o + 4) (cis := [12]) (k := 7) fa_X12_23 (by decide) hR.1 rfl (hR.2 (7, 4, 20, 2) (by decide)).1 dX12_strikes_140 ?_
        refine JJ_iload_n dX12_strikes_143 rfl rfl ?_
        refine JJ_aload_n dX12_strikes_144 rfl rfl ?_
        refine JJ_getr (q := o + 7) (cis := [12]) (k := 10) fa_X12_32 (by decide) hR.1 rfl (hR.2 (10, 7, 20, 2) (by decide)).1 dX12_strikes_145 ?_
        refine JJ_iload_n dX12_strikes_148 rfl rfl ?_
        refine JJ_ialdX (v := M (o + 7) p) (hR.2 (10, 7, 20, 2) (by decide)).2 (IX_nI (by omega) (by omega)) (hN.2.1 7 _ (by decide) (by decide)) (rd_n hM53 (by omega) (rd_n hM30 (by omega) (rd_n hM28 (by omega) (rd_n hM16 (by omega) (rd_n hM5 (by omega) rfl))))) dX12_strikes_149 ?_
        refine JJ_iastX (hR.2 (7, 4, 20, 2) (by decide)).2 (IX_nI (by omega) (by omega)) dX12_strikes_150 (fun M54 hM55 => ?_)
        refine JJ_aload_n dX12_strikes_151 rfl rfl ?_
        refine JJ_aload_n dX12_strikes_152 rfl rfl ?_
        refine JJ_geti (v := M o 11) (cis := [12]) (k := 11) fa_X12_109 (by decide) hR.1 rfl (hN.1 11 (by decide)) (rd_n hM55 (by omega) (rd_n hM53 (by omega) (rd_n hM30 (by omega) (rd_n hM28 (by omega) (rd_n hM16 (by omega) (rd_n hM5 (by omega) rfl)))))) dX12_strikes_153 ?_
        refine JJ_iconst (v := 1) dX12_strikes_156 rfl ?_
        refine JJ_iadd dX12_strikes_157 ?_
        refine JJ_iconst (v := 0) dX12_strikes_158 rfl ?_
        refine JJ_bipush (v := 99) dX12_strikes_159 rfl ?_
        refine JJ_callS (rest := [.ref o]) (kr_within (v := (M o 11) + 1) (lo := 0) (hi := 99)) (by decide) mi_X12_within lk_X12_242 rfl (Nat.le_of_ble_eq_true rfl) rfl rfl dX12_strikes_161 ?_
        intro v56 μ57 h58
        obtain ⟨rfl, rfl⟩ := h58
        refine JJ_r1 ?_
        refine JJ_puti (cis := [12]) (k := 11) fa_X12_109 (by decide) hR.1 rfl (fun r hr => by cases hr; exact ⟨rfl, by decide +kernel⟩) dX12_strikes_164 (fun M59 hM60 => ?_)
        refine JJ_iconst (v := 0) dX12_strikes_167 rfl ?_
        refine JJ_zret dX12_strikes_168 rfl (Or.inl rfl) ?_
        have hq : 1 - p < 2 := by omega
        have hw : ¬ s_win E (M (o + 6)) (M (o + 8) k) (M (o + 9) k) (M (o + 10) k) p (rGet o M) := by unfold s_win s_t s_to; simp only [rg0 hp, rg0 hq, rg1 hp, rg1 hq, rg4]; exact i_nlt c20
        have hh : s_home E (M (o + 6)) (M (o + 7)) (M (o + 8) k) (M (o + 9) k) (M (o + 10) k) p (rGet o M) := by unfold s_home s_t s_to s_legs1; simp only [rg0 hp, rg0 hq, rg1 hp, rg1 hq, rg4]; exact ⟨c31, i_le2 c40⟩
        exact ans_i2 (b2_f hw).symm (mem_eq (strikes_eq p hp ((rd_n hM60 (by omega) (rd_n hM55 (by omega) (rd_n hM53 (by omega) (rd_n hM30 (by omega) (rd_n hM28 (by omega) (rd_n hM16 (by omega) (rd_s hM5))))))).trans (by unfold s_to; rw [rg0 hp])) ((rd_n hM60 (by omega) (rd_s hM55)).trans (by rw [(sa_n hw hp).2.1, if_pos hh]; try rw [rg0 hp])) ((rd_n hM60 (by omega) (rd_n hM55 (by omega) (rd_n hM53 (by omega) (rd_s hM30)))).trans (by rw [(sa_n hw hp).2.2.1]; unfold s_to; rw [rg0 hp])) ((rd_n hM60 (by omega) (rd_n hM55 (by omega) (rd_s hM53))).trans (by rw [(sa_n hw hp).2.2.2.1, if_pos hh]; unfold s_legs1; rw [rg1 hp]; try rw [rg0 hp])) ((rd_n hM60 (by omega) (rd_n hM55 (by omega) (rd_n hM53 (by omega) (rd_n hM30 (by omega) (rd_s hM28))))).trans (by rw [(sa_n hw hp).2.2.2.2]; unfold s_to; rw [rg1 hq, rg0 hp, rg0 hq])) ((rd_s hM60).trans (by rw [(sa_n hw hp).1, rg4])) (fun b j z0 z1 z2 z3 => by refine rd_n hM60 (by omega) ?_; refine rd_n hM55 (by omega) ?_; refine rd_n hM53 (by omega) ?_; refine rd_n hM30 (by omega) ?_; refine rd_n hM28 (by omega) ?_; refine rd_n hM16 (by omega) ?_; refine rd_n hM5 (by omega) ?_; rfl)))
  · skip
    refine JJ_iconst (v := 1) dX12_strikes_57 rfl ?_
    refine JJ_zret dX12_strikes_58 rfl (Or.inr rfl) ?_
    have hq : 1 - p < 2 := by omega
    have hw : s_win E (M (o + 6)) (M (o + 8) k) (M (o + 9) k) (M (o + 10) k) p (rGet o M) := by unfold s_win s_t s_to; simp only [rg0 hp, rg0 hq, rg1 hp, rg1 hq, rg4]; exact i_nle c20
    exact ans_i2 (b2_t hw).symm (mem_eq (strikes_eq p hp ((rd_n hM16 (by omega) (rd_s hM5)).trans (by unfold s_to; rw [rg0 hp])) ((rd_n hM16 (by omega) (rd_n hM5 (by omega) rfl)).trans (by rw [(sa_w hw).2 p (by omega), rg0 hp])) ((rd_n hM16 (by omega) (rd_n hM5 (by omega) rfl)).trans (by rw [(sa_w hw).2 (1 - p) (by omega), rg0 hq])) ((rd_s hM16).trans (by rw [(sa_w hw).1]; unfold s_legs1; rw [rg1 hp])) ((rd_n hM16 (by omega) (rd_n hM5 (by omega) rfl)).trans (by rw [(sa_w hw).2 (2 + (1 - p)) (by omega), rg1 hq])) ((rd_n hM16 (by omega) (rd_n hM5 (by omega) rfl)).trans (by rw [(sa_w hw).2 4 (by omega), rg4])) (fun b j z0 z1 z2 z3 => by refine rd_n hM16 (by omega) ?_; refine rd_n hM5 (by omega) ?_; rfl)))
end REF2
