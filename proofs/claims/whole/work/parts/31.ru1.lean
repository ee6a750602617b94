section RU1
variable {G : Gx} {sc : Nat → Nat → Prop} {n : Nat} {S : Nat → Nat × Nat} {M : Nat → Nat → Int32} {L : Nat → Nat → Int64} {P : Nat → Nat → Option Nat} {o : Nat}

set_option maxHeartbeats 4000000 in
set_option maxRecDepth 100000 in
theorem kp_name {r m i : Nat} (hg : RDG o r m M) (hb : M o 29 = 0) (ht : TKS o (TB o r M) m i M L) (h25 : M o 25 = 1) (hR : RWF o S P) (hX : HX o sc) : KK G sc yX12_name cX12_name 1 (some .int) 4 0 0 [.ref o] (n, S, M, L, P) (fun v μ => if wname (TB o r M) (skB (TB o r M) m i) (skL (TB o r M) m (skB (TB o r M) m i)) = 0 then v = some (.int 0) ∧ μ = (n, S, up2 (up2 M o 29 1) o 30 (M o 26), L, P) else v = some (.int (M o (16 + (-1 - wname (TB o r M) (skB (TB o r M) m i) (skL (TB o r M) m (skB (TB o r M) m i))).toNatClampNeg))) ∧ μ = (n, S, M, L, P)) := by
  refine KK_of2 [(0, .ref o)] (by decide +kernel) (Nat.le_of_ble_eq_true rfl) rfl ?_
  refine JJ_aload_n dX12_name_0 rfl rfl ?_
  refine JJ_bipush (v := 102) dX12_name_1 rfl ?_
  refine JJ_bipush (v := 97) dX12_name_3 rfl ?_
  refine JJ_bipush (v := 114) dX12_name_5 rfl ?_
  refine JJ_iconst (v := 0) dX12_name_7 rfl ?_
  refine JJ_iconst (v := 0) dX12_name_8 rfl ?_
  refine JJ_iconst (v := 0) dX12_name_9 rfl ?_
  refine JJ_iconst (v := 0) dX12_name_10 rfl ?_
  refine JJ_iconst (v := 0) dX12_name_11 rfl ?_
  refine JJ_callV (rest := []) hR.1 rfl rfl (kp_far hg hb ht hR hX) (by decide) mi_X12_isWord lk_X12_177 rfl (Nat.le_of_ble_eq_true rfl) rfl rfl dX12_name_12 ?_
  intro v1 μ2 h3
  obtain ⟨rfl, rfl⟩ := h3
  refine JJ_r1 ?_
  refine JJ_if_eq (tgt := 23) dX12_name_15 (by decide) (fun c4 => ?_) (fun c4 => ?_)
  · skip
    refine JJ_aload_n dX12_name_23 rfl rfl ?_
    refine JJ_bipush (v := 119) dX12_name_24 rfl ?_
    refine JJ_bipush (v := 97) dX12_name_26 rfl ?_
    refine JJ_bipush (v := 114) dX12_name_28 rfl ?_
    refine JJ_bipush (v := 109) dX12_name_30 rfl ?_
    refine JJ_iconst (v := 0) dX12_name_32 rfl ?_
    refine JJ_iconst (v := 0) dX12_name_33 rfl ?_
    refine JJ_iconst (v := 0) dX12_name_34 rfl ?_
    refine JJ_iconst (v := 0) dX12_name_35 rfl ?_
    refine JJ_callV (rest := []) hR.1 rfl rfl (kp_warm hg hb ht hR hX) (by decide) mi_X12_isWord lk_X12_177 rfl (Nat.le_of_ble_eq_true rfl) rfl rfl dX12_name_36 ?_
    intro v5 μ6 h7
    obtain ⟨rfl, rfl⟩ := h7
    refine JJ_r1 ?_
    refine JJ_if_eq (tgt := 47) dX12_name_39 (by decide) (fun c8 => ?_) (fun c8 => ?_)
    · skip
      refine JJ_aload_n dX12_name_47 rfl rfl ?_
      refine JJ_bipush (v := 108) dX12_name_48 rfl ?_
      refine JJ_bipush (v := 101) dX12_name_50 rfl ?_
      refine JJ_bipush (v := 103) dX12_name_52 rfl ?_
      refine JJ_bipush (v := 115) dX12_name_54 rfl ?_
      refine JJ_iconst (v := 0) dX12_name_56 rfl ?_
      refine JJ_iconst (v := 0) dX12_name_57 rfl ?_
      refine JJ_iconst (v := 0) dX12_name_58 rfl ?_
      refine JJ_iconst (v := 0) dX12_name_59 rfl ?_
      refine JJ_callV (rest := []) hR.1 rfl rfl (kp_legs hg hb ht hR hX) (by decide) mi_X12_isWord lk_X12_177 rfl (Nat.le_of_ble_eq_true rfl) rfl rfl dX12_name_60 ?_
      intro v9 μ10 h11
      obtain ⟨rfl, rfl⟩ := h11
      refine JJ_r1 ?_
      refine JJ_if_eq (tgt := 71) dX12_name_63 (by decide) (fun c12 => ?_) (fun c12 => ?_)
      · skip
        refine JJ_aload_n dX12_name_71 rfl rfl ?_
        refine JJ_bipush (v := 113) dX12_name_72 rfl ?_
        refine JJ_bipush (v := 117) dX12_name_74 rfl ?_
        refine JJ_bipush (v := 105) dX12_name_76 rfl ?_
        refine JJ_bipush (v := 99) dX12_name_78 rfl ?_
        refine JJ_bipush (v := 107) dX12_name_80 rfl ?_
        refine JJ_iconst (v := 0) dX12_name_82 rfl ?_
        refine JJ_iconst (v := 0) dX12_name_83 rfl ?_
        refine JJ_iconst (v := 0) dX12_name_84 rfl ?_
        refine JJ_callV (rest := []) hR.1 rfl rfl (kp_quick hg hb ht hR hX) (by decide) mi_X12_isWord lk_X12_177 rfl (Nat.le_of_ble_eq_true rfl) rfl rfl dX12_name_85 ?_
        intro v13 μ14 h15
        obtain ⟨rfl, rfl⟩ := h15
        refine JJ_r1 ?_
        refine JJ_if_eq (tgt := 96) dX12_name_88 (by decide) (fun c16 => ?_) (fun c16 => ?_)
        · skip
          refine JJ_aload_n dX12_name_96 rfl rfl ?_
          refine JJ_bipush (v := 110) dX12_name_97 rfl ?_
          refine JJ_bipush (v := 117) dX12_name_99 rfl ?_
          refine JJ_bipush (v := 109) dX12_name_101 rfl ?_
          refine JJ_bipush (v := 98) dX12_name_103 rfl ?_
          refine JJ_bipush (v := 101) dX12_name_105 rfl ?_
          refine JJ_bipush (v := 114) dX12_name_107 rfl ?_
          refine JJ_iconst (v := 0) dX12_name_109 rfl ?_
          refine JJ_iconst (v := 0) dX12_name_110 rfl ?_
          refine JJ_callV (rest := []) hR.1 rfl rfl (kp_number hg hb ht hR hX) (by decide) mi_X12_isWord lk_X12_177 rfl (Nat.le_of_ble_eq_true rfl) rfl rfl dX12_name_111 ?_
          intro v17 μ18 h19
          obtain ⟨rfl, rfl⟩ := h19
          refine JJ_r1 ?_
          refine JJ_if_eq (tgt := 122) dX12_name_114 (by decide) (fun c20 => ?_) (fun c20 => ?_)
          · skip
            refine JJ_aload_n dX12_name_122 rfl rfl ?_
            refine JJ_bipush (v := 99) dX12_name_123 rfl ?_
            refine JJ_bipush (v := 101) dX12_name_125 rfl ?_
            refine JJ_bipush (v := 108) dX12_name_127 rfl ?_
            refine JJ_bipush (v := 108) dX12_name_129 rfl ?_
            refine JJ_iconst (v := 0) dX12_name_131 rfl ?_
            refine JJ_iconst (v := 0) dX12_name_132 rfl ?_
            refine JJ_iconst (v := 0) dX12_name_133 rfl ?_
            refine JJ_iconst (v := 0) dX12_name_134 rfl ?_
            refine JJ_callV (rest := []) hR.1 rfl rfl (kp_cell hg hb ht hR hX) (by decide) mi_X12_isWord lk_X12_177 rfl (Nat.le_of_ble_eq_true rfl) rfl rfl dX12_name_135 ?_
            intro v21 μ22 h23
            obtain ⟨rfl, rfl⟩ := h23
            refine JJ_r1 ?_
            refine JJ_if_eq (tgt := 146) dX12_name_138 (by decide) (fun c24 => ?_) (fun c24 => ?_)
            · skip
              refine JJ_aload_n dX12_name_146 rfl rfl ?_
              refine JJ_callV (rest := []) hR.1 rfl rfl (kp_fail0 hb hR hX) (by decide) mi_X12_fail lk_X12_171 rfl (Nat.le_of_ble_eq_true rfl) rfl rfl dX12_name_147 ?_
              intro v25 μ26 h27
              obtain ⟨rfl, rfl⟩ := h27
              refine JJ_r0 ?_
              refine JJ_iconst (v := 0) dX12_name_150 rfl ?_
              refine JJ_iret dX12_name_151 rfl ?_
              have e0 : wname (TB o r M) (skB (TB o r M) m i) (skL (TB o r M) m (skB (TB o r M) m i)) = 0 := by
                unfold wname
                rw [if_neg (fun z => bw_0.mp c4 ⟨h25, z⟩), if_neg (fun z => bw_0.mp c8 ⟨h25, z⟩), if_neg (fun z => bw_0.mp c12 ⟨h25, z⟩), if_neg (fun z => bw_0.mp c16 ⟨h25, z⟩), if_neg (fun z => bw_0.mp c20 ⟨h25, z⟩), if_neg (fun z => bw_0.mp c24 ⟨h25, z⟩)]
              rw [if_pos e0]
              exact ⟨rfl, rfl⟩
            · skip
              refine JJ_aload_n dX12_name_141 rfl rfl ?_
              refine JJ_geti (v := M o 21) (cis := [12]) (k := 21) fa_X12_196 (by decide) hR.1 rfl (hX.1 21) rfl dX12_name_142 ?_
              refine JJ_iret dX12_name_145 rfl ?_
              have e0 : wname (TB o r M) (skB (TB o r M) m i) (skL (TB o r M) m (skB (TB o r M) m i)) = -6 := by
                unfold wname
                rw [if_neg (fun z => bw_0.mp c4 ⟨h25, z⟩), if_neg (fun z => bw_0.mp c8 ⟨h25, z⟩), if_neg (fun z => bw_0.mp c12 ⟨h25, z⟩), if_neg (fun z => bw_0.mp c16 ⟨h25, z⟩), if_neg (fun z => bw_0.mp c20 ⟨h25, z⟩), if_pos (bw_n.mp c24).2]
              rw [e0]
              exact ⟨rfl, rfl⟩
          · skip
            refine JJ_aload_n dX12_name_117 rfl rfl ?_
            refine JJ_geti (v := M o 20) (cis := [12]) (k := 20) fa_X12_193 (by decide) hR.1 rfl (hX.1 20) rfl dX12_name_118 ?_
            refine JJ_iret dX12_name_121 rfl ?_
            have e0 : wname (TB o r M) (skB (TB o r M) m i) (skL (TB o r M) m (skB (TB o r M) m i)) = -5 := by
              unfold wname
              rw [if_neg (fun z => bw_0.mp c4 ⟨h25, z⟩), if_neg (fun z => bw_0.mp c8 ⟨h25, z⟩), if_neg (fun z => bw_0.mp c12 ⟨h25, z⟩), if_neg (fun z => bw_0.mp c16 ⟨h25, z⟩), if_pos (bw_n.mp c20).2]
            rw [e0]
            exact ⟨rfl, rfl⟩
        · skip
          refine JJ_aload_n dX12_name_91 rfl rfl ?_
          refine JJ_geti (v := M o 19) (cis := [12]) (k := 19) fa_X12_190 (by decide) hR.1 rfl (hX.1 19) rfl dX12_name_92 ?_
          refine JJ_iret dX12_name_95 rfl ?_
          have e0 : wname (TB o r M) (skB (TB o r M) m i) (skL (TB o r M) m (skB (TB o r M) m i)) = -4 := by
            unfold wname
            rw [if_neg (fun z => bw_0.mp c4 ⟨h25, z⟩), if_neg (fun z => bw_0.mp c8 ⟨h25, z⟩), if_neg (fun z => bw_0.mp c12 ⟨h25, z⟩), if_pos (bw_n.mp c16).2]
          rw [e0]
          exact ⟨rfl, rfl⟩
      · skip
        refine JJ_aload_n dX12_name_66 rfl rfl ?_
        refine JJ_geti (v := M o 18) (cis := [12]) (k := 18) fa_X12_187 (by decide) hR.1 rfl (hX.1 18) rfl dX12_name_67 ?_
        refine JJ_iret dX12_name_70 rfl ?_
        have e0 : wname (TB o r M) (skB (TB o r M) m i) (skL (TB o r M) m (skB (TB o r M) m i)) = -3 := by
          unfold wname
          rw [if_neg (fun z => bw_0.mp c4 ⟨h25, z⟩), if_neg (fun z => bw_0.mp c8 ⟨h25, z⟩), if_pos (bw_n.mp c12).2]
        rw [e0]
        exact ⟨rfl, rfl⟩
    · skip
      refine JJ_aload_n dX12_name_42 rfl rfl ?_
      refine JJ_geti (v := M o 17) (cis := [12]) (k := 17) fa_X12_184 (by decide) hR.1 rfl (hX.1 17) rfl dX12_name_43 ?_
      refine JJ_iret dX12_name_46 rfl ?_
      have e0 : wname (TB o r M) (skB (TB o r M) m i) (skL (TB o r M) m (skB (TB o r M) m i)) = -2 := by
        unfold wname
        rw [if_neg (fun z => bw_0.mp c4 ⟨h25, z⟩), if_pos (bw_n.mp c8).2]
      rw [e0]
      exact ⟨rfl, rfl⟩
  · skip
    refine JJ_aload_n dX12_name_18 rfl rfl ?_
    refine JJ_geti (v := M o 16) (cis := [12]) (k := 16) fa_X12_181 (by decide) hR.1 rfl (hX.1 16) rfl dX12_name_19 ?_
    refine JJ_iret dX12_name_22 rfl ?_
    have e0 : wname (TB o r M) (skB (TB o r M) m i) (skL (TB o r M) m (skB (TB o r M) m i)) = -1 := by
      unfold wname
      rw [if_pos (bw_n.mp c4).2]
    rw [e0]
    exact ⟨rfl, rfl⟩
end RU1
