section REF17
variable {G : Gx} {sc : Nat → Nat → Prop} {n : Nat} {S : Nat → Nat × Nat} {M : Nat → Nat → Int32} {L : Nat → Nat → Int64} {P : Nat → Nat → Option Nat} {o : Nat}

set_option maxHeartbeats 4000000 in
set_option maxRecDepth 100000 in
theorem kr_strokesP {s so t nn : Int32} {A : Abs} (hA : rABS o M A) (hg2 : RNG2 A) (hR : RWF o S P) (hN : HSR o sc) : KK G sc yX12_strokes cX12_strokes 8 (some .int) 5 0 0 [.ref o, .int s, .int so, .int t, .int nn] (n, S, M, L, P) (zI o n S M P (zr_strokes A s so t nn).1 (zr_strokes A s so t nn).2) := by
  have hg : RNG A := hg2.1
  refine KK_of2 [(0, .ref o), (1, .int s), (2, .int so), (3, .int t), (4, .int nn)] (by decide +kernel) (Nat.le_of_ble_eq_true rfl) rfl ?_
  refine JJ_iload_n dX12_strokes_0 rfl rfl ?_
  refine JJ_callS (rest := []) (kr_isSheet (v := s)) (by decide) mi_X12_isSheet lk_X12_309 rfl (Nat.le_of_ble_eq_true rfl) rfl rfl dX12_strokes_1 ?_
  intro v1 μ2 h3
  obtain ⟨rfl, rfl⟩ := h3
  refine JJ_r1 ?_
  refine JJ_if_eq (tgt := 32) dX12_strokes_4 (by decide) (fun c4 => ?_) (fun c4 => ?_)
  · skip
    refine JJ_bipush (v := (-2)) dX12_strokes_32 rfl ?_
    refine JJ_iret dX12_strokes_34 rfl ?_
    have e0 : zr_strokes A s so t nn = (-2, A) := if_pos (fun z => b2_0.mp c4 z.1)
    exact zI_r (by rw [e0]) (by rw [e0]; exact hA) (fun _ _ _ => rfl)
  · skip
    refine JJ_iload_n dX12_strokes_7 rfl rfl ?_
    refine JJ_i2l dX12_strokes_8 ?_
    refine JJ_lconst (v := 0) dX12_strokes_9 rfl ?_
    refine JJ_ldc2 (v := 2) dX12_strokes_10 tb_1337 ?_
    refine JJ_callS (rest := []) (kr_in32 (v := so) (lo := 0) (hi := 2) (a := 0) (b := 2) rfl rfl) (by decide) mi_X12_in lk_X12_82 rfl (Nat.le_of_ble_eq_true rfl) rfl rfl dX12_strokes_13 ?_
    intro v5 μ6 h7
    obtain ⟨rfl, rfl⟩ := h7
    refine JJ_r1 ?_
    refine JJ_if_eq (tgt := 32) dX12_strokes_16 (by decide) (fun c8 => ?_) (fun c8 => ?_)
    · skip
      refine JJ_bipush (v := (-2)) dX12_strokes_32 rfl ?_
      refine JJ_iret dX12_strokes_34 rfl ?_
      have e0 : zr_strokes A s so t nn = (-2, A) := if_pos (fun z => b2_0.mp c8 z.2.1)
      exact zI_r (by rw [e0]) (by rw [e0]; exact hA) (fun _ _ _ => rfl)
    · skip
      refine JJ_iload dX12_strokes_19 rfl ?_
      refine JJ_i2l dX12_strokes_21 ?_
      refine JJ_lconst (v := 0) dX12_strokes_22 rfl ?_
      refine JJ_ldc2 (v := 6) dX12_strokes_23 tb_1091 ?_
      refine JJ_callS (rest := []) (kr_in32 (v := nn) (lo := 0) (hi := 6) (a := 0) (b := 6) rfl rfl) (by decide) mi_X12_in lk_X12_82 rfl (Nat.le_of_ble_eq_true rfl) rfl rfl dX12_strokes_26 ?_
      intro v9 μ10 h11
      obtain ⟨rfl, rfl⟩ := h11
      refine JJ_r1 ?_
      refine JJ_if_ne (tgt := 35) dX12_strokes_29 (by decide) (fun c12 => ?_) (fun c12 => ?_)
      · skip
        obtain ⟨k, hk3, rfl⟩ := n_of (m := 3) (by decide) (b2_n.mp c4)
        have hk4 : k < 4 := by omega
        obtain ⟨m, hm6, rfl⟩ := n_of (m := 6) (by decide) (b2_n.mp c12)
        have e0 : zr_strokes A (nI k) so t (nI m) = if A.1 16 k = 0 then (-11, A) else if ¬ A.1 17 k = so then (-13, A) else if t.toInt < 0 then (if nI m = 0 then (0, A) else (-12, A)) else zstk k (i2n t) m 0 A 0 := by
          unfold zr_strokes
          rw [if_neg (fun z => z ⟨b2_n.mp c4, b2_n.mp c8, b2_n.mp c12⟩), show i2n (nI k) = k from nI_clamp (by omega), show i2n (nI m) = m from nI_clamp (by omega)]
        refine JJ_aload_n dX12_strokes_35 rfl rfl ?_
        refine JJ_getr (q := o + 15) (cis := [12]) (k := 47) fa_X12_59 (by decide) hR.1 rfl (hR.2 (47, 15, 21, 4) (by decide)).1 dX12_strokes_36 ?_
        refine JJ_iload_n dX12_strokes_39 rfl rfl ?_
        refine JJ_zaldX (v := A.1 16 k) (hR.2 (47, 15, 21, 4) (by decide)).2 (IX_nI (by omega) (by omega)) (hN.2.1 15 _ (by decide) (by decide)) (hA.th hk4) dX12_strokes_40 ?_
        refine JJ_if_eq (tgt := 57) dX12_strokes_41 (by decide) (fun c13 => ?_) (fun c13 => ?_)
        · skip
          refine JJ_aload_n dX12_strokes_57 rfl rfl ?_
          refine JJ_getr (q := o + 15) (cis := [12]) (k := 47) fa_X12_59 (by decide) hR.1 rfl (hR.2 (47, 15, 21, 4) (by decide)).1 dX12_strokes_58 ?_
          refine JJ_iload_n dX12_strokes_61 rfl rfl ?_
          refine JJ_zaldX (v := A.1 16 k) (hR.2 (47, 15, 21, 4) (by decide)).2 (IX_nI (by omega) (by omega)) (hN.2.1 15 _ (by decide) (by decide)) (hA.th hk4) dX12_strokes_62 ?_
          refine JJ_if_ne (tgt := 69) dX12_strokes_63 (by decide) (fun c14 => absurd c13 c14) (fun _ => ?_)
          refine JJ_bipush (v := (-11)) dX12_strokes_66 rfl ?_
          refine JJ_iret dX12_strokes_68 rfl ?_
          rw [if_pos c13] at e0
          exact zI_r (by rw [e0]) (by rw [e0]; exact hA) (fun _ _ _ => rfl)
        · skip
          refine JJ_aload_n dX12_strokes_44 rfl rfl ?_
          refine JJ_getr (q := o + 16) (cis := [12]) (k := 48) fa_X12_63 (by decide) hR.1 rfl (hR.2 (48, 16, 20, 4) (by decide)).1 dX12_strokes_45 ?_
          refine JJ_iload_n dX12_strokes_48 rfl rfl ?_
          refine JJ_ialdX (v := A.1 17 k) (hR.2 (48, 16, 20, 4) (by decide)).2 (IX_nI (by omega) (by omega)) (hN.2.1 16 _ (by decide) (by decide)) (hA.so hk4) dX12_strokes_49 ?_
          refine JJ_iload_n dX12_strokes_50 rfl rfl ?_
          refine JJ_icmp_eq (tgt := 57) dX12_strokes_51 (by decide) (fun c15 => ?_) (fun c15 => ?_)
          · skip
            refine JJ_aload_n dX12_strokes_57 rfl rfl ?_
            refine JJ_getr (q := o + 15) (cis := [12]) (k := 47) fa_X12_59 (by decide) hR.1 rfl (hR.2 (47, 15, 21, 4) (by decide)).1 dX12_strokes_58 ?_
            refine JJ_iload_n dX12_strokes_61 rfl rfl ?_
            refine JJ_zaldX (v := A.1 16 k) (hR.2 (47, 15, 21, 4) (by decide)).2 (IX_nI (by omega) (by omega)) (hN.2.1 15 _ (by decide) (by decide)) (hA.th hk4) dX12_strokes_62 ?_
            refine JJ_if_ne (tgt := 69) dX12_strokes_63 (by decide) (fun _ => ?_) (fun c16 => absurd c16 c13)
            refine JJ_iconst (v := 0) dX12_strokes_69 rfl ?_
            refine JJ_istore (lv' := [(5, .int 0), (0, .ref o), (1, .int (nI k)), (2, .int so), (3, .int t), (4, .int (nI m))]) dX12_strokes_70 (by decide) rfl ?_
            refine JJ_iconst (v := 0) dX12_strokes_72 rfl ?_
            refine JJ_istore (lv' := [(6, .int 0), (5, .int 0), (0, .ref o), (1, .int (nI k)), (2, .int so), (3, .int t), (4, .int (nI m))]) dX12_strokes_73 (by decide) rfl ?_
            rw [if_neg c13, if_neg (fun z => z c15)] at e0
            by_cases hneg : t.toInt < 0
            · skip
              rw [if_pos hneg] at e0
              have hneg2 : t < 0 := i_lt.mpr hneg
              refine JJ_iload dX12_strokes_75 rfl ?_
              refine JJ_iload dX12_strokes_77 rfl ?_
              refine JJ_icmp_ge (tgt := 167) dX12_strokes_79 (by decide) (fun c17 => ?_) (fun c17 => ?_)
              · skip
                refine JJ_iload dX12_strokes_167 rfl ?_
                refine JJ_iret dX12_strokes_169 rfl ?_
                have hm0 : nI m = 0 := by rw [show m = 0 from by have := (nI_leI (b := 0) (by omega) (by omega)).mp c17; omega]; rfl
                rw [if_pos hm0] at e0
                exact zI_r (by rw [e0]) (by rw [e0]; exact hA) (fun _ _ _ => rfl)
              · skip
                refine JJ_iload_n dX12_strokes_82 rfl rfl ?_
                refine JJ_if_lt (tgt := 103) dX12_strokes_83 (by decide) (fun _ => ?_) (fun c18 => absurd hneg2 c18)
                refine JJ_bipush (v := (-12)) dX12_strokes_103 rfl ?_
                refine JJ_iret dX12_strokes_105 rfl ?_
                have hm0 : ¬ nI m = 0 := fun e => c17 (by rw [e]; exact Int32.le_refl 0)
                rw [if_neg hm0] at e0
                exact zI_r (by rw [e0]) (by rw [e0]; exact hA) (fun _ _ _ => rfl)
            obtain ⟨-, N, hN40, eN⟩ := (hg.2.2.2.2.1 k hk4).resolve_left c13
            rw [if_neg hneg] at e0
            obtain ⟨a, ha, rfl⟩ : ∃ a, a < 2147483648 ∧ t = nI a := ⟨t.toInt.toNat, by have := i_rng t; omega, by have := i_rng t; rw [i_eq, nI_toInt (by omega)]; omega⟩
            rw [show i2n (nI a) = a from nI_clamp (by omega)] at e0
            have key : ∀ (d i c : Nat) (Ax : Abs) (Mx : Nat → Nat → Int32) (Lx : Nat → Nat → Int64), i + d = m → c ≤ i → zstk k a d i Ax c = zstk k a m 0 A 0 → rABS o Mx Ax → RNG Ax → Ax.1 18 k = nI N → (∀ b l, ¬ RO o b → Mx b l = M b l) → JJ G sc yX12_strokes cX12_strokes 8 (some .int) 5 0 0 (zI o n S M P (zr_strokes A (nI k) so (nI a) (nI m)).1 (zr_strokes A (nI k) so (nI a) (nI m)).2) 75 [(6, .int (nI i)), (5, .int (nI c)), (0, .ref o), (1, .int (nI k)), (2, .int so), (3, .int (nI a)), (4, .int (nI m))] [] (n, S, Mx, Lx, P) := by
              intro d
              induction d with
              | zero =>
                intro i c Ax Mx Lx hi hci hst hAx hgx hNx hx
                have hzN : zN Ax k = N := by show i2n _ = _; rw [hNx]; exact nI_clamp (by omega)
                refine JJ_iload dX12_strokes_75 rfl ?_
                refine JJ_iload dX12_strokes_77 rfl ?_
                refine JJ_icmp_ge (tgt := 167) dX12_strokes_79 (by decide) (fun _ => ?_) (fun c19 => absurd (nI_le (by omega) (by omega)) c19)
                refine JJ_iload dX12_strokes_167 rfl ?_
                refine JJ_iret dX12_strokes_169 rfl ?_
                rw [← hst] at e0
                exact zI_r (by rw [e0]; rfl) (by rw [e0]; exact hAx) hx
              | succ d ih =>
                intro i c Ax Mx Lx hi hci hst hAx hgx hNx hx
                have hzN : zN Ax k = N := by show i2n _ = _; rw [hNx]; exact nI_clamp (by omega)
                refine JJ_iload dX12_strokes_75 rfl ?_
                refine JJ_iload dX12_strokes_77 rfl ?_
                refine JJ_icmp_ge (tgt := 167) dX12_strokes_79 (by decide) (fun c20 => absurd c20 (nI_ge (by omega) (by omega))) (fun _ => ?_)
                refine JJ_iload_n dX12_strokes_82 rfl rfl ?_
                refine JJ_if_lt (tgt := 103) dX12_strokes_83 (by decide) (fun c21 => absurd c21 (fun e => absurd (i_lt.mp e) (by rw [nI_toInt (by omega)]; exact Int.not_lt.mpr (Int.natCast_nonneg _)))) (fun _ => ?_)
                refine JJ_iload_n dX12_strokes_86 rfl rfl ?_
                refine JJ_aload_n dX12_strokes_87 rfl rfl ?_
                refine JJ_getr (q := o + 17) (cis := [12]) (k := 49) fa_X12_66 (by decide) hR.1 rfl (hR.2 (49, 17, 20, 4) (by decide)).1 dX12_strokes_88 ?_
                refine JJ_iload_n dX12_strokes_91 rfl rfl ?_
                refine JJ_ialdX (v := nI N) (hR.2 (49, 17, 20, 4) (by decide)).2 (IX_nI (by omega) (by omega)) (hN.2.1 17 _ (by decide) (by decide)) ((hAx.sz hk4).trans hNx) dX12_strokes_92 ?_
                refine JJ_iconst (v := 3) dX12_strokes_93 rfl ?_
                refine JJ_iload dX12_strokes_94 rfl ?_
                refine JJ_imul dX12_strokes_96 ?_
                refine JJ_eqi (x2 := nI (3 * i)) (pk_mul (3) (i)) ?_
                refine JJ_isub dX12_strokes_97 ?_
                refine JJ_iconst (v := 3) dX12_strokes_98 rfl ?_
                refine JJ_isub dX12_strokes_99 ?_
                refine JJ_icmp_le (tgt := 106) dX12_strokes_100 (by decide) (fun c22 => ?_) (fun c22 => ?_)
                · skip
                  have hin := (sub3_le hN40 (by omega) ha).mp c22
                  refine JJ_bipush (v := 40) dX12_strokes_106 rfl ?_
                  refine JJ_iload_n dX12_strokes_108 rfl rfl ?_
                  refine JJ_imul dX12_strokes_109 ?_
                  refine JJ_eqi (x2 := nI (40 * k)) (pk_mul (40) (k)) ?_
                  refine JJ_iload_n dX12_strokes_110 rfl rfl ?_
                  refine JJ_iadd dX12_strokes_111 ?_
                  refine JJ_eqi (x2 := nI (40 * k + a)) (nI_add (40 * k) (a)) ?_
                  refine JJ_iconst (v := 3) dX12_strokes_112 rfl ?_
                  refine JJ_iload dX12_strokes_113 rfl ?_
                  refine JJ_imul dX12_strokes_115 ?_
                  refine JJ_eqi (x2 := nI (3 * i)) (pk_mul (3) (i)) ?_
                  refine JJ_iadd dX12_strokes_116 ?_
                  refine JJ_eqi (x2 := nI (40 * k + a + 3 * i)) (nI_add (40 * k + a) (3 * i)) ?_
                  refine JJ_istore (lv' := [(7, .int (nI (40 * k + a + 3 * i))), (6, .int (nI i)), (5, .int (nI c)), (0, .ref o), (1, .int (nI k)), (2, .int so), (3, .int (nI a)), (4, .int (nI m))]) dX12_strokes_117 (by decide) rfl ?_
                  refine JJ_iload dX12_strokes_119 rfl ?_
                  refine JJ_aload_n dX12_strokes_121 rfl rfl ?_
                  refine JJ_aload_n dX12_strokes_122 rfl rfl ?_
                  refine JJ_getr (q := o + 18) (cis := [12]) (k := 50) fa_X12_69 (by decide) hR.1 rfl (hR.2 (50, 18, 20, 160) (by decide)).1 dX12_strokes_123 ?_
                  refine JJ_iload dX12_strokes_126 rfl ?_
                  refine JJ_ialdX (v := Ax.1 (20 + k) (a + 3 * i)) (hR.2 (50, 18, 20, 160) (by decide)).2 (IX_nI (by omega) (by omega)) (hN.2.1 18 _ (by decide) (by decide)) (by rw [show 40 * k + a + 3 * i = 40 * k + (a + 3 * i) by omega]; exact hAx.im hk4 (by omega)) dX12_strokes_128 ?_
                  refine JJ_aload_n dX12_strokes_129 rfl rfl ?_
                  refine JJ_getr (q := o + 18) (cis := [12]) (k := 50) fa_X12_69 (by decide) hR.1 rfl (hR.2 (50, 18, 20, 160) (by decide)).1 dX12_strokes_130 ?_
                  refine JJ_iload dX12_strokes_133 rfl ?_
                  refine JJ_iconst (v := 1) dX12_strokes_135 rfl ?_
                  refine JJ_iadd dX12_strokes_136 ?_
                  refine JJ_eqi (x2 := nI (40 * k + a + 3 * i + 1)) (nI_add (40 * k + a + 3 * i) (1)) ?_
                  refine JJ_ialdX (v := Ax.1 (20 + k) (a + 3 * i + 1)) (hR.2 (50, 18, 20, 160) (by decide)).2 (IX_nI (by omega) (by omega)) (hN.2.1 18 _ (by decide) (by decide)) (by rw [show 40 * k + a + 3 * i + 1 = 40 * k + (a + 3 * i + 1) by omega]; exact hAx.im hk4 (by omega)) dX12_strokes_137 ?_
                  refine JJ_aload_n dX12_strokes_138 rfl rfl ?_
                  refine JJ_getr (q := o + 18) (cis := [12]) (k := 50) fa_X12_69 (by decide) hR.1 rfl (hR.2 (50, 18, 20, 160) (by decide)).1 dX12_strokes_139 ?_
                  refine JJ_iload dX12_strokes_142 rfl ?_
                  refine JJ_iconst (v := 2) dX12_strokes_144 rfl ?_
                  refine JJ_iadd dX12_strokes_145 ?_
                  refine JJ_eqi (x2 := nI (40 * k + a + 3 * i + 2)) (nI_add (40 * k + a + 3 * i) (2)) ?_
                  refine JJ_ialdX (v := Ax.1 (20 + k) (a + 3 * i + 2)) (hR.2 (50, 18, 20, 160) (by decide)).2 (IX_nI (by omega) (by omega)) (hN.2.1 18 _ (by decide) (by decide)) (by rw [show 40 * k + a + 3 * i + 2 = 40 * k + (a + 3 * i + 2) by omega]; exact hAx.im hk4 (by omega)) dX12_strokes_146 ?_
                  refine JJ_callV (rest := [.int (nI c)]) hR.1 rfl rfl (kr_stroke (kind := Ax.1 (20 + k) (a + 3 * i)) (number := Ax.1 (20 + k) (a + 3 * i + 1)) (aim := Ax.1 (20 + k) (a + 3 * i + 2)) hAx hgx hR hN) (by omega) mi_X12_stroke lk_X12_372 rfl (Nat.le_of_ble_eq_true rfl) rfl rfl dX12_strokes_147 ?_
                  intro v23 μ24 h25
                  obtain ⟨rfl, Mc, Lc, rfl, hAc, hfc⟩ := h25
                  refine JJ_r1 ?_
                  refine JJ_if_lt (tgt := 157) dX12_strokes_150 (by decide) (fun c26 => ?_) (fun c26 => ?_)
                  · skip
                    refine JJ_iconst (v := 0) dX12_strokes_157 rfl ?_
                    refine JJ_iadd dX12_strokes_158 ?_
                    refine JJ_eqi (x2 := nI c) (Int32.add_zero _) ?_
                    refine JJ_istore (lv' := [(5, .int (nI c)), (7, .int (nI (40 * k + a + 3 * i))), (6, .int (nI i)), (0, .ref o), (1, .int (nI k)), (2, .int so), (3, .int (nI a)), (4, .int (nI m))]) dX12_strokes_159 (by decide) rfl ?_
                    refine JJ_iinc (v := nI (i + 1)) (lv' := [(6, .int (nI (i + 1))), (5, .int (nI c)), (7, .int (nI (40 * k + a + 3 * i))), (0, .ref o), (1, .int (nI k)), (2, .int so), (3, .int (nI a)), (4, .int (nI m))]) dX12_strokes_161 rfl (nI_add (i) 1) (by decide) rfl ?_
                    refine JJ_goto (tgt := 75) dX12_strokes_164 (by decide) ?_
                    refine JJ.pick [0, 1, 3, 4, 5, 6, 7] rfl ?_
                    refine ih (i + 1) (c + 0) (zr_stroke Ax (Ax.1 (20 + k) (a + 3 * i)) (Ax.1 (20 + k) (a + 3 * i + 1)) (Ax.1 (20 + k) (a + 3 * i + 2))).2 Mc Lc (by omega) (by omega) ?_ hAc (rng_stroke hgx) ((stroke_o (by decide)).trans hNx) (fun b l z => (hfc b l z).trans (hx b l z))
                    rw [← hst]
                    have e1 : zstk k a (d + 1) i Ax c = zstk k a d (i + 1) (zr_stroke Ax (Ax.1 (20 + k) (a + 3 * i)) (Ax.1 (20 + k) (a + 3 * i + 1)) (Ax.1 (20 + k) (a + 3 * i + 2))).2 (c + if 0 ≤ (zr_stroke Ax (Ax.1 (20 + k) (a + 3 * i)) (Ax.1 (20 + k) (a + 3 * i + 1)) (Ax.1 (20 + k) (a + 3 * i + 2))).1 then 1 else 0) := if_pos (by rw [hzN]; exact hin)
                    rw [e1, if_neg (Int32.not_le.mpr c26)]
                  · skip
                    refine JJ_iconst (v := 1) dX12_strokes_153 rfl ?_
                    refine JJ_goto (tgt := 158) dX12_strokes_154 (by decide) ?_
                    refine JJ_iadd dX12_strokes_158 ?_
                    refine JJ_eqi (x2 := nI (c + 1)) (nI_add (c) (1)) ?_
                    refine JJ_istore (lv' := [(5, .int (nI (c + 1))), (7, .int (nI (40 * k + a + 3 * i))), (6, .int (nI i)), (0, .ref o), (1, .int (nI k)), (2, .int so), (3, .int (nI a)), (4, .int (nI m))]) dX12_strokes_159 (by decide) rfl ?_
                    refine JJ_iinc (v := nI (i + 1)) (lv' := [(6, .int (nI (i + 1))), (5, .int (nI (c + 1))), (7, .int (nI (40 * k + a + 3 * i))), (0, .ref o), (1, .int (nI k)), (2, .int so), (3, .int (nI a)), (4, .int (nI m))]) dX12_strokes_161 rfl (nI_add (i) 1) (by decide) rfl ?_
                    refine JJ_goto (tgt := 75) dX12_strokes_164 (by decide) ?_
                    refine JJ.pick [0, 1, 3, 4, 5, 6, 7] rfl ?_
                    refine ih (i + 1) (c + 1) (zr_stroke Ax (Ax.1 (20 + k) (a + 3 * i)) (Ax.1 (20 + k) (a + 3 * i + 1)) (Ax.1 (20 + k) (a + 3 * i + 2))).2 Mc Lc (by omega) (by omega) ?_ hAc (rng_stroke hgx) ((stroke_o (by decide)).trans hNx) (fun b l z => (hfc b l z).trans (hx b l z))
                    rw [← hst]
                    have e1 : zstk k a (d + 1) i Ax c = zstk k a d (i + 1) (zr_stroke Ax (Ax.1 (20 + k) (a + 3 * i)) (Ax.1 (20 + k) (a + 3 * i + 1)) (Ax.1 (20 + k) (a + 3 * i + 2))).2 (c + if 0 ≤ (zr_stroke Ax (Ax.1 (20 + k) (a + 3 * i)) (Ax.1 (20 + k) (a + 3 * i + 1)) (Ax.1 (20 + k) (a + 3 * i + 2))).1 then 1 else 0) := if_pos (by rw [hzN]; exact hin)
                    rw [e1, if_pos (Int32.not_lt.mp c26)]
                · skip
                  refine JJ_bipush (v := (-12)) dX12_strokes_103 rfl ?_
                  refine JJ_iret dX12_strokes_105 rfl ?_
                  rw [← hst, show zstk k a (d + 1) i Ax c = (-12, Ax) from if_neg (fun z => c22 ((sub3_le hN40 (by omega) ha).mpr (by rw [hzN] at z; exact z)))] at e0
                  exact zI_r (by rw [e0]) (by rw [e0]; exact hAx) hx
            refine JJ.pick [0, 1, 2, 3, 4, 5, 6] rfl ?_
            exact key m 0 0 A M L (by omega) (Nat.le_refl _) rfl hA hg eN (fun _ _ _ => rfl)
          · skip
            refine JJ_bipush (v := (-13)) dX12_strokes_54 rfl ?_
            refine JJ_iret dX12_strokes_56 rfl ?_
            rw [if_neg c13, if_pos c15] at e0
            exact zI_r (by rw [e0]) (by rw [e0]; exact hA) (fun _ _ _ => rfl)
      · skip
        refine JJ_bipush (v := (-2)) dX12_strokes_32 rfl ?_
        refine JJ_iret dX12_strokes_34 rfl ?_
        have e0 : zr_strokes A s so t nn = (-2, A) := if_pos (fun z => b2_0.mp c12 z.2.2)
        exact zI_r (by rw [e0]) (by rw [e0]; exact hA) (fun _ _ _ => rfl)
set_option maxHeartbeats 4000000 in
set_option maxRecDepth 100000 in
theorem kr_film {s r : Int32} {A : Abs} (hA : rABS o M A) (hg2 : RNG2 A) (hR : RWF o S P) (hN : HSR o sc) : KK G sc yX12_film cX12_film 5 (some .int) 64 0 0 [.ref o, .int s, .int r] (n, S, M, L, P) (zI o n S M P (zr_film A s r).1 (zr_film A s r).2) := by
  have hg : RNG A := hg2.1
  refine KK_of2 [(0, .ref o), (1, .int s), (2, .int r)] (by decide +kernel) (Nat.le_of_ble_eq_true rfl) rfl ?_
  refine JJ_iload_n dX12_film_0 rfl rfl ?_
  refine JJ_callS (rest := []) (kr_isSheet (v := s)) (by decide) mi_X12_isSheet lk_X12_309 rfl (Nat.le_of_ble_eq_true rfl) rfl rfl dX12_film_1 ?_
  intro v1 μ2 h3
  obtain ⟨rfl, rfl⟩ := h3
  refine JJ_r1 ?_
  refine JJ_if_eq (tgt := 14) dX12_film_4 (by decide) (fun c4 => ?_) (fun c4 => ?_)
  · skip
    refine JJ_bipush (v := (-2)) dX12_film_14 rfl ?_
    refine JJ_iret dX12_film_16 rfl ?_
    have e0 : zr_film A s r = (-2, A) := if_pos (fun z => b2_0.mp c4 z.1)
    exact zI_r (by rw [e0]) (by rw [e0]; exact hA) (fun _ _ _ => rfl)
  · skip
    refine JJ_iload_n dX12_film_7 rfl rfl ?_
    refine JJ_callS (rest := []) (kr_isSheet (v := r)) (by decide) mi_X12_isSheet lk_X12_309 rfl (Nat.le_of_ble_eq_true rfl) rfl rfl dX12_film_8 ?_
    intro v5 μ6 h7
    obtain ⟨rfl, rfl⟩ := h7
    refine JJ_r1 ?_
    refine JJ_if_ne (tgt := 17) dX12_film_11 (by decide) (fun c8 => ?_) (fun c8 => ?_)
    · skip
      refine JJ_aload_n dX12_film_17 rfl rfl ?_
      refine JJ_iload_n dX12_film_18 rfl rfl ?_
      refine JJ_callV (rest := []) hR.1 rfl rfl (kr_rallyBad (A := A) (s := r) hA hg hR hN) (by decide) mi_X12_rallyBad lk_X12_312 rfl (Nat.le_of_ble_eq_true rfl) rfl rfl dX12_film_19 ?_
      intro v9 μ10 h11
      obtain ⟨rfl, rfl⟩ := h11
      refine JJ_r1 ?_
      refine JJ_istore_n (lv' := [(3, .int (z_rb A r)), (0, .ref o), (1, .int s), (2, .int r)]) dX12_film_22 rfl (by decide) rfl ?_
      refine JJ_iload_n dX12_film_23 rfl rfl ?_
      refine JJ_if_eq (tgt := 29) dX12_film_24 (by decide) (fun c12 => ?_) (fun c12 => ?_)
      · skip
        have hrb := c12
        obtain ⟨k, N, rfl, hr⟩ := rb_rly (hA.shi hg) ((hA.rb hg _).trans hrb)
        have hk4 := hr.1
        obtain ⟨u, hu3, rfl⟩ := n_of (m := 3) (by decide) (b2_n.mp c4)
        have hu4 : u < 4 := by omega
        have hF : (z_fin A k).1 ≤ 40 := by have h0 := sr_fin_le (E := zE A) (qk := zQ A) (hm := zH A) (kd := zKq A k) (nb := zNq A k) (am := zAq A k) (κ := zC A) (zN A k) 0; have h1 := hA.zn hr; have h2 := hr.2.1; show (sr_fin _ _ _ _ _ _ _ _ _).1 ≤ 40; omega
        have e0 : zr_film A (nI u) (nI k) = (nI (z_fin A k).1, zSheet A u 1 0 (nI (z_fin A k).1) (z_fin A k).1 (fun j => z_to A k j)) := ((if_neg (fun z => z ⟨b2_n.mp c4, b2_n.mp c8⟩)).trans (if_pos hrb)).trans (by rw [show i2n (nI k) = k from nI_clamp (by omega), show i2n (nI u) = u from nI_clamp (by omega)])
        have es : zr_sheet A (nI u) 0 (nI (z_fin A k).1) = (1, zSheet A u 1 0 (nI (z_fin A k).1) (z_fin A k).1 (fun _ => 0)) := by
          unfold zr_sheet
          rw [if_neg (fun z => z ⟨b2_n.mp c4, by decide⟩), if_pos (by decide), if_neg (show ¬ 40 < nI (z_fin A k).1 from Int32.not_lt.mpr (nI_le (b := 40) (by omega) (by omega))), if_neg (show ¬ nI (z_fin A k).1 < 0 from Int32.not_lt.mpr (nI_le (a := 0) (by omega) (by omega))), show i2n (nI u) = u from nI_clamp (by omega), show i2n (nI (z_fin A k).1) = (z_fin A k).1 from nI_clamp (by omega)]
        generalize hFe : (z_fin A k).1 = F at *
        refine JJ_aload_n dX12_film_29 rfl rfl ?_
        refine JJ_callV (rest := []) hR.1 rfl rfl (kr_layAside (a := 0) hA.as (by decide) hR hN) (by decide) mi_X12_layAside lk_X12_315 rfl (Nat.le_of_ble_eq_true rfl) rfl rfl dX12_film_30 ?_
        intro v13 μ14 h15
        obtain ⟨rfl, Ma, rfl, hla⟩ := h15
        refine JJ_r0 ?_
        have hrA : RLY o Ma k N := ⟨hr.1, hr.2.1, by rw [laid_k hla (t := 17) (by decide) (by decide)]; exact hr.2.2.1, by rw [laid_k hla (t := 18) (by decide) (by decide)]; exact hr.2.2.2⟩
        have hcA : CVR o Ma := by unfold CVR; rw [laid_k hla (t := 4) (by decide) (by decide), laid_k hla (t := 7) (by decide) (by decide), laid_k hla (t := 10) (by decide) (by decide)]; exact hA.cvr hg
        have heA : RTX o Ma (zE A) := (hA.rtx hg).keep (laid_k hla (t := 1) (by decide) (by decide)) (laid_k hla (t := 2) (by decide) (by decide)) (hla.2.2.2.2 o 4 (by omega) (by omega))
        refine JJ_aload_n dX12_film_33 rfl rfl ?_
        refine JJ_iload_n dX12_film_34 rfl rfl ?_
        refine JJ_callV (rest := []) hR.1 rfl rfl (kr_rallies (E := zE A) (s := k) (N := N) hrA hcA hR hN heA) (by decide) mi_X12_rallies lk_X12_318 rfl (Nat.le_of_ble_eq_true rfl) rfl rfl dX12_film_35 ?_
        intro v16 μ17 h18
        obtain ⟨rfl, Mb, Lb, rfl, hin⟩ := h18
        refine JJ_r0 ?_
        obtain ⟨ist, i34, i35, i36, i37, ibl⟩ := ral_A hA hr (laid_a hla) (hla.2.2.2.2 o 11 (by omega) (by omega)) rfl hin
        rw [hFe] at i35 ibl
        refine JJ_aload_n dX12_film_38 rfl rfl ?_
        refine JJ_callV (rest := []) hR.1 rfl rfl (kr_takeBack (a := 0) (lr33 hla hin) (by decide) hR hN) (by decide) mi_X12_takeBack lk_X12_322 rfl (Nat.le_of_ble_eq_true rfl) rfl rfl dX12_film_39 ?_
        intro v19 μ20 h21
        obtain ⟨rfl, Mc, rfl, htk⟩ := h21
        refine JJ_r0 ?_
        have hfr := lrt hla hin htk hA.as
        refine JJ_aload_n dX12_film_42 rfl rfl ?_
        refine JJ_iload_n dX12_film_43 rfl rfl ?_
        refine JJ_iconst (v := 0) dX12_film_44 rfl ?_
        refine JJ_aload_n dX12_film_45 rfl rfl ?_
        refine JJ_geti (v := nI F) (cis := [12]) (k := 35) fa_X12_289 (by decide) hR.1 rfl (hN.1 35 (by decide)) ((htk.2.2.2.2 _ _ (by omega) (by omega) (by omega)).trans i35) dX12_film_46 ?_
        refine JJ_callV (rest := []) hR.1 rfl rfl (kr_sheet0 (s := nI u) (so := 0) (nn := nI F) (hA.keep hfr) hg2 hR hN) (by decide) mi_X12_sheet lk_X12_355 rfl (Nat.le_of_ble_eq_true rfl) rfl rfl dX12_film_49 ?_
        intro v22 μ23 h24
        obtain ⟨rfl, Ms, rfl, hAs, hfs⟩ := h24
        refine JJ_r1 ?_
        rw [es] at hAs
        have h35 : Ms o 35 = nI F := (hfs _ _ (Or.inl rfl)).trans ((htk.2.2.2.2 _ _ (by omega) (by omega) (by omega)).trans i35)
        have hbl : ∀ j, j < F → Ms (o + 12) j = z_to A k j := fun j hj => (hfs _ _ (Or.inr (Or.inl rfl))).trans ((htk.2.2.2.2 _ _ (by omega) (by omega) (by omega)).trans (ibl j hj))
        refine JJ_pop dX12_film_52 rfl ?_
        refine JJ_iconst (v := 0) dX12_film_53 rfl ?_
        refine JJ_istore (lv' := [(4, .int 0), (3, .int (z_rb A (nI k))), (0, .ref o), (1, .int (nI u)), (2, .int (nI k))]) dX12_film_54 (by decide) rfl ?_
        have key : ∀ (d j : Nat) (Mx : Nat → Nat → Int32), j + d = F → (∀ x, x < j → Mx (o + 18) (40 * u + x) = z_to A k x) → (∀ b l, ¬ (b = o + 18 ∧ 40 * u ≤ l ∧ l < 40 * u + j) → Mx b l = Ms b l) → JJ G sc yX12_film cX12_film 5 (some .int) 64 0 0 (zI o n S M P (zr_film A (nI u) (nI k)).1 (zr_film A (nI u) (nI k)).2) 56 [(4, .int (nI j)), (0, .ref o), (1, .int (nI u))] [] (n, S, Mx, Lb, P) := by
          intro d
          induction d with
          | zero =>
            intro j Mx hj hz hx
            refine JJ_iload dX12_film_56 rfl ?_
            refine JJ_aload_n dX12_film_58 rfl rfl ?_
            refine JJ_geti (v := nI F) (cis := [12]) (k := 35) fa_X12_289 (by decide) hR.1 rfl (hN.1 35 (by decide)) ((hx _ _ (by omega)).trans h35) dX12_film_59 ?_
            refine JJ_icmp_ge (tgt := 90) dX12_film_62 (by decide) (fun _ => ?_) (fun c25 => absurd (nI_le (by omega) (by omega)) c25)
            refine JJ_aload_n dX12_film_90 rfl rfl ?_
            refine JJ_geti (v := nI F) (cis := [12]) (k := 35) fa_X12_289 (by decide) hR.1 rfl (hN.1 35 (by decide)) ((hx _ _ (by omega)).trans h35) dX12_film_91 ?_
            refine JJ_iret dX12_film_94 rfl ?_
            obtain rfl : j = F := by omega
            refine zI_r (by rw [e0]) (by rw [e0, ← zsh_zsh (f := fun _ => 0)]; exact sheet_abs hu4 hF hAs ((hx _ _ (by omega)).trans ((hAs.th hu4).trans zsh_16)) ((hx _ _ (by omega)).trans ((hAs.so hu4).trans zsh_17)) ((hx _ _ (by omega)).trans ((hAs.sz hu4).trans zsh_18)) hz (fun b l _ _ _ z => hx b l z)) (fun b l z => ?_)
            exact (hx b l (fun e => z (by unfold RO; omega))).trans ((hfs b l (Or.inr (Or.inr z))).trans (hfr b l (fun q => z (by unfold TD at q; unfold RO; omega))))
          | succ d ih =>
            intro j Mx hj hz hx
            refine JJ_iload dX12_film_56 rfl ?_
            refine JJ_aload_n dX12_film_58 rfl rfl ?_
            refine JJ_geti (v := nI F) (cis := [12]) (k := 35) fa_X12_289 (by decide) hR.1 rfl (hN.1 35 (by decide)) ((hx _ _ (by omega)).trans h35) dX12_film_59 ?_
            refine JJ_icmp_ge (tgt := 90) dX12_film_62 (by decide) (fun c26 => absurd c26 (nI_ge (by omega) (by omega))) (fun _ => ?_)
            refine JJ_aload_n dX12_film_65 rfl rfl ?_
            refine JJ_getr (q := o + 18) (cis := [12]) (k := 50) fa_X12_69 (by decide) hR.1 rfl (hR.2 (50, 18, 20, 160) (by decide)).1 dX12_film_66 ?_
            refine JJ_bipush (v := 40) dX12_film_69 rfl ?_
            refine JJ_iload_n dX12_film_71 rfl rfl ?_
            refine JJ_imul dX12_film_72 ?_
            refine JJ_eqi (x2 := nI (40 * u)) (pk_mul (40) (u)) ?_
            refine JJ_iload dX12_film_73 rfl ?_
            refine JJ_iadd dX12_film_75 ?_
            refine JJ_eqi (x2 := nI (40 * u + j)) (nI_add (40 * u) (j)) ?_
            refine JJ_aload_n dX12_film_76 rfl rfl ?_
            refine JJ_getr (q := o + 12) (cis := [12]) (k := 38) fa_X12_47 (by decide) hR.1 rfl (hR.2 (38, 12, 20, 40) (by decide)).1 dX12_film_77 ?_
            refine JJ_iload dX12_film_80 rfl ?_
            refine JJ_ialdX (v := z_to A k j) (hR.2 (38, 12, 20, 40) (by decide)).2 (IX_nI (by omega) (by omega)) (hN.2.1 12 _ (by decide) (by decide)) ((hx _ _ (by omega)).trans (hbl j (by omega))) dX12_film_82 ?_
            refine JJ_iastX (hR.2 (50, 18, 20, 160) (by decide)).2 (IX_nI (by omega) (by omega)) dX12_film_83 (fun M27 hM28 => ?_)
            refine JJ_iinc (v := nI (j + 1)) (lv' := [(4, .int (nI (j + 1))), (0, .ref o), (1, .int (nI u))]) dX12_film_84 rfl (nI_add (j) 1) (by decide) rfl ?_
            refine JJ_goto (tgt := 56) dX12_film_87 (by decide) ?_
            refine JJ.pick [0, 1, 2] rfl ?_
            refine ih (j + 1) M27 (by omega) (fun x hx1 => ?_) (fun b l z => (rd_n hM28 (by omega) rfl).trans (hx b l (by omega)))
            by_cases ej : x = j
            · rw [ej]; exact rd_s hM28
            · exact (rd_n hM28 (by omega) rfl).trans (hz x (by omega))
        refine JJ.pick [0, 2, 3] rfl ?_
        exact key F 0 Ms (by omega) (fun x hx1 => by omega) (fun _ _ _ => rfl)
      · skip
        refine JJ_iload_n dX12_film_27 rfl rfl ?_
        refine JJ_iret dX12_film_28 rfl ?_
        have e0 : zr_film A s r = (z_rb A r, A) := (if_neg (fun z => z ⟨b2_n.mp c4, b2_n.mp c8⟩)).trans (if_neg c12)
        exact zI_r (by rw [e0]) (by rw [e0]; exact hA) (fun _ _ _ => rfl)
    · skip
      refine JJ_bipush (v := (-2)) dX12_film_14 rfl ?_
      refine JJ_iret dX12_film_16 rfl ?_
      have e0 : zr_film A s r = (-2, A) := if_pos (fun z => b2_0.mp c8 z.2)
      exact zI_r (by rw [e0]) (by rw [e0]; exact hA) (fun _ _ _ => rfl)
end REF17
