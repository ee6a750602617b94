section REF16
variable {G : Gx} {sc : Nat → Nat → Prop} {n : Nat} {S : Nat → Nat × Nat} {M : Nat → Nat → Int32} {L : Nat → Nat → Int64} {P : Nat → Nat → Option Nat} {o : Nat}

theorem cp_nat {N N2 : Nat} {i j nn : Int32} (hN : N ≤ 40) (hN2 : N2 ≤ 40) (h1 : 0 ≤ nn) (h2 : 0 ≤ i) (h3 : 0 ≤ j) (h4 : i ≤ nI N - nn) (h5 : j ≤ nI N2 - nn) : ∃ f g m : Nat, f + m ≤ N ∧ g + m ≤ N2 ∧ i = nI f ∧ j = nI g ∧ nn = nI m := by
  have z0 : (0 : Int32).toInt = 0 := rfl
  rw [i_le, z0] at h1 h2 h3
  rw [i_le] at h4 h5
  obtain ⟨z1, e1, b1, b2⟩ := i_sub (nI N) nn
  obtain ⟨z2, e2, b3, b4⟩ := i_sub (nI N2) nn
  rw [nI_toInt (by omega)] at e1 e2
  have r1 := i_rng nn
  have r2 := i_rng i
  have r3 := i_rng j
  refine ⟨i.toInt.toNat, j.toInt.toNat, nn.toInt.toNat, by omega, by omega, ?_, ?_, ?_⟩ <;> (rw [i_eq, nI_toInt (by omega)]; omega)
theorem cp_y {N N2 f g m : Nat} (hN : N ≤ 40) (hN2 : N2 ≤ 40) (h4 : f + m ≤ N) (h5 : g + m ≤ N2) : 0 ≤ (nI m).toInt ∧ 0 ≤ (nI f).toInt ∧ 0 ≤ (nI g).toInt ∧ (nI f).toInt + (nI m).toInt ≤ N ∧ (nI g).toInt + (nI m).toInt ≤ N2 := by
  rw [nI_toInt (by omega), nI_toInt (by omega), nI_toInt (by omega)]
  omega
theorem cp_n {N : Nat} {i nn : Int32} (hN : N ≤ 40) (h1 : 0 ≤ nn) (h2 : 0 ≤ i) (h4 : nI N - nn < i) (h5 : i.toInt + nn.toInt ≤ N) : False := by
  have z0 : (0 : Int32).toInt = 0 := rfl
  rw [i_le, z0] at h1 h2
  rw [i_lt] at h4
  obtain ⟨z1, e1, b1, b2⟩ := i_sub (nI N) nn
  rw [nI_toInt (by omega)] at e1
  have r1 := i_rng nn
  omega
set_option maxHeartbeats 4000000 in
set_option maxRecDepth 100000 in
theorem kr_copy {s i t j nn : Int32} {A : Abs} (hA : rABS o M A) (hg2 : RNG2 A) (hR : RWF o S P) (hN : HSR o sc) : KK G sc yX12_copy cX12_copy 9 (some .int) 3 0 0 [.ref o, .int s, .int i, .int t, .int j, .int nn] (n, S, M, L, P) (zI o n S M P (zr_copy A s i t j nn).1 (zr_copy A s i t j nn).2) := by
  have hg : RNG A := hg2.1
  refine KK_of2 [(0, .ref o), (1, .int s), (2, .int i), (3, .int t), (4, .int j), (5, .int nn)] (by decide +kernel) (Nat.le_of_ble_eq_true rfl) rfl ?_
  refine JJ_iload_n dX12_copy_0 rfl rfl ?_
  refine JJ_callS (rest := []) (kr_isSheet (v := s)) (by decide) mi_X12_isSheet lk_X12_309 rfl (Nat.le_of_ble_eq_true rfl) rfl rfl dX12_copy_1 ?_
  intro v1 μ2 h3
  obtain ⟨rfl, rfl⟩ := h3
  refine JJ_r1 ?_
  refine JJ_if_eq (tgt := 14) dX12_copy_4 (by decide) (fun c4 => ?_) (fun c4 => ?_)
  · skip
    refine JJ_bipush (v := (-2)) dX12_copy_14 rfl ?_
    refine JJ_iret dX12_copy_16 rfl ?_
    have e0 : zr_copy A s i t j nn = (-2, A) := if_pos (fun z => b2_0.mp c4 z.1)
    exact zI_r (by rw [e0]) (by rw [e0]; exact hA) (fun _ _ _ => rfl)
  · skip
    refine JJ_iload_n dX12_copy_7 rfl rfl ?_
    refine JJ_callS (rest := []) (kr_isSheet (v := t)) (by decide) mi_X12_isSheet lk_X12_309 rfl (Nat.le_of_ble_eq_true rfl) rfl rfl dX12_copy_8 ?_
    intro v5 μ6 h7
    obtain ⟨rfl, rfl⟩ := h7
    refine JJ_r1 ?_
    refine JJ_if_ne (tgt := 17) dX12_copy_11 (by decide) (fun c8 => ?_) (fun c8 => ?_)
    · skip
      obtain ⟨k, hk3, rfl⟩ := n_of (m := 3) (by decide) (b2_n.mp c4)
      have hk4 : k < 4 := by omega
      obtain ⟨u, hu3, rfl⟩ := n_of (m := 3) (by decide) (b2_n.mp c8)
      have hu4 : u < 4 := by omega
      have e0 : zr_copy A (nI k) i (nI u) j nn = if A.1 16 k = 0 ∨ A.1 16 u = 0 then (-11, A) else if ¬ A.1 17 k = A.1 17 u then (-13, A) else if ¬ (0 ≤ nn.toInt ∧ 0 ≤ i.toInt ∧ 0 ≤ j.toInt ∧ i.toInt + nn.toInt ≤ zN A k ∧ j.toInt + nn.toInt ≤ zN A u) then (-12, A) else (nn, zCopy A k (i2n i) u (i2n j) (i2n nn)) := by
        unfold zr_copy
        rw [if_neg (fun z => z ⟨b2_n.mp c4, b2_n.mp c8⟩), show i2n (nI k) = k from nI_clamp (by omega), show i2n (nI u) = u from nI_clamp (by omega)]
      refine JJ_aload_n dX12_copy_17 rfl rfl ?_
      refine JJ_getr (q := o + 15) (cis := [12]) (k := 47) fa_X12_59 (by decide) hR.1 rfl (hR.2 (47, 15, 21, 4) (by decide)).1 dX12_copy_18 ?_
      refine JJ_iload_n dX12_copy_21 rfl rfl ?_
      refine JJ_zaldX (v := A.1 16 k) (hR.2 (47, 15, 21, 4) (by decide)).2 (IX_nI (by omega) (by omega)) (hN.2.1 15 _ (by decide) (by decide)) (hA.th hk4) dX12_copy_22 ?_
      refine JJ_if_eq (tgt := 35) dX12_copy_23 (by decide) (fun c9 => ?_) (fun c9 => ?_)
      · skip
        refine JJ_bipush (v := (-11)) dX12_copy_35 rfl ?_
        refine JJ_iret dX12_copy_37 rfl ?_
        rw [if_pos (Or.inl c9)] at e0
        exact zI_r (by rw [e0]) (by rw [e0]; exact hA) (fun _ _ _ => rfl)
      · skip
        refine JJ_aload_n dX12_copy_26 rfl rfl ?_
        refine JJ_getr (q := o + 15) (cis := [12]) (k := 47) fa_X12_59 (by decide) hR.1 rfl (hR.2 (47, 15, 21, 4) (by decide)).1 dX12_copy_27 ?_
        refine JJ_iload_n dX12_copy_30 rfl rfl ?_
        refine JJ_zaldX (v := A.1 16 u) (hR.2 (47, 15, 21, 4) (by decide)).2 (IX_nI (by omega) (by omega)) (hN.2.1 15 _ (by decide) (by decide)) (hA.th hu4) dX12_copy_31 ?_
        refine JJ_if_ne (tgt := 38) dX12_copy_32 (by decide) (fun c10 => ?_) (fun c10 => ?_)
        · skip
          obtain ⟨-, N, hN40, eN⟩ := (hg.2.2.2.2.1 k hk4).resolve_left c9
          obtain ⟨-, N2, hN240, eN2⟩ := (hg.2.2.2.2.1 u hu4).resolve_left c10
          have hz1 : zN A k = N := by show i2n _ = _; rw [eN]; exact nI_clamp (by omega)
          have hz2 : zN A u = N2 := by show i2n _ = _; rw [eN2]; exact nI_clamp (by omega)
          rw [if_neg (fun z => z.elim c9 c10), hz1, hz2] at e0
          refine JJ_aload_n dX12_copy_38 rfl rfl ?_
          refine JJ_getr (q := o + 16) (cis := [12]) (k := 48) fa_X12_63 (by decide) hR.1 rfl (hR.2 (48, 16, 20, 4) (by decide)).1 dX12_copy_39 ?_
          refine JJ_iload_n dX12_copy_42 rfl rfl ?_
          refine JJ_ialdX (v := A.1 17 k) (hR.2 (48, 16, 20, 4) (by decide)).2 (IX_nI (by omega) (by omega)) (hN.2.1 16 _ (by decide) (by decide)) (hA.so hk4) dX12_copy_43 ?_
          refine JJ_aload_n dX12_copy_44 rfl rfl ?_
          refine JJ_getr (q := o + 16) (cis := [12]) (k := 48) fa_X12_63 (by decide) hR.1 rfl (hR.2 (48, 16, 20, 4) (by decide)).1 dX12_copy_45 ?_
          refine JJ_iload_n dX12_copy_48 rfl rfl ?_
          refine JJ_ialdX (v := A.1 17 u) (hR.2 (48, 16, 20, 4) (by decide)).2 (IX_nI (by omega) (by omega)) (hN.2.1 16 _ (by decide) (by decide)) (hA.so hu4) dX12_copy_49 ?_
          refine JJ_icmp_eq (tgt := 56) dX12_copy_50 (by decide) (fun c11 => ?_) (fun c11 => ?_)
          · skip
            refine JJ_iload dX12_copy_56 rfl ?_
            refine JJ_if_lt (tgt := 97) dX12_copy_58 (by decide) (fun c12 => ?_) (fun c12 => ?_)
            · skip
              refine JJ_bipush (v := (-12)) dX12_copy_97 rfl ?_
              refine JJ_iret dX12_copy_99 rfl ?_
              rw [if_neg (fun z => z c11), if_pos (fun z => (Int32.not_le.mpr c12 (i_le.mpr (z.1))))] at e0
              exact zI_r (by rw [e0]) (by rw [e0]; exact hA) (fun _ _ _ => rfl)
            · skip
              refine JJ_iload_n dX12_copy_61 rfl rfl ?_
              refine JJ_if_lt (tgt := 97) dX12_copy_62 (by decide) (fun c13 => ?_) (fun c13 => ?_)
              · skip
                refine JJ_bipush (v := (-12)) dX12_copy_97 rfl ?_
                refine JJ_iret dX12_copy_99 rfl ?_
                rw [if_neg (fun z => z c11), if_pos (fun z => (Int32.not_le.mpr c13 (i_le.mpr (z.2.1))))] at e0
                exact zI_r (by rw [e0]) (by rw [e0]; exact hA) (fun _ _ _ => rfl)
              · skip
                refine JJ_iload dX12_copy_65 rfl ?_
                refine JJ_if_lt (tgt := 97) dX12_copy_67 (by decide) (fun c14 => ?_) (fun c14 => ?_)
                · skip
                  refine JJ_bipush (v := (-12)) dX12_copy_97 rfl ?_
                  refine JJ_iret dX12_copy_99 rfl ?_
                  rw [if_neg (fun z => z c11), if_pos (fun z => (Int32.not_le.mpr c14 (i_le.mpr (z.2.2.1))))] at e0
                  exact zI_r (by rw [e0]) (by rw [e0]; exact hA) (fun _ _ _ => rfl)
                · skip
                  refine JJ_iload_n dX12_copy_70 rfl rfl ?_
                  refine JJ_aload_n dX12_copy_71 rfl rfl ?_
                  refine JJ_getr (q := o + 17) (cis := [12]) (k := 49) fa_X12_66 (by decide) hR.1 rfl (hR.2 (49, 17, 20, 4) (by decide)).1 dX12_copy_72 ?_
                  refine JJ_iload_n dX12_copy_75 rfl rfl ?_
                  refine JJ_ialdX (v := nI N) (hR.2 (49, 17, 20, 4) (by decide)).2 (IX_nI (by omega) (by omega)) (hN.2.1 17 _ (by decide) (by decide)) ((hA.sz hk4).trans eN) dX12_copy_76 ?_
                  refine JJ_iload dX12_copy_77 rfl ?_
                  refine JJ_isub dX12_copy_79 ?_
                  refine JJ_icmp_gt (tgt := 97) dX12_copy_80 (by decide) (fun c15 => ?_) (fun c15 => ?_)
                  · skip
                    refine JJ_bipush (v := (-12)) dX12_copy_97 rfl ?_
                    refine JJ_iret dX12_copy_99 rfl ?_
                    rw [if_neg (fun z => z c11), if_pos (fun z => (cp_n hN40 (Int32.not_lt.mp c12) (Int32.not_lt.mp c13) c15 z.2.2.2.1))] at e0
                    exact zI_r (by rw [e0]) (by rw [e0]; exact hA) (fun _ _ _ => rfl)
                  · skip
                    refine JJ_iload dX12_copy_83 rfl ?_
                    refine JJ_aload_n dX12_copy_85 rfl rfl ?_
                    refine JJ_getr (q := o + 17) (cis := [12]) (k := 49) fa_X12_66 (by decide) hR.1 rfl (hR.2 (49, 17, 20, 4) (by decide)).1 dX12_copy_86 ?_
                    refine JJ_iload_n dX12_copy_89 rfl rfl ?_
                    refine JJ_ialdX (v := nI N2) (hR.2 (49, 17, 20, 4) (by decide)).2 (IX_nI (by omega) (by omega)) (hN.2.1 17 _ (by decide) (by decide)) ((hA.sz hu4).trans eN2) dX12_copy_90 ?_
                    refine JJ_iload dX12_copy_91 rfl ?_
                    refine JJ_isub dX12_copy_93 ?_
                    refine JJ_icmp_le (tgt := 100) dX12_copy_94 (by decide) (fun c16 => ?_) (fun c16 => ?_)
                    · skip
                      obtain ⟨f, g, m, hf, hgm, rfl, rfl, rfl⟩ := cp_nat hN40 hN240 (Int32.not_lt.mp c12) (Int32.not_lt.mp c13) (Int32.not_lt.mp c14) (Int32.not_lt.mp c15) c16
                      rw [if_neg (fun z => z c11), if_neg (fun z => z (cp_y hN40 hN240 hf hgm)), show i2n (nI f) = f from nI_clamp (by omega), show i2n (nI g) = g from nI_clamp (by omega), show i2n (nI m) = m from nI_clamp (by omega)] at e0
                      refine JJ_iload_n dX12_copy_100 rfl rfl ?_
                      refine JJ_iload_n dX12_copy_101 rfl rfl ?_
                      refine JJ_icmp_ne (tgt := 115) dX12_copy_102 (by decide) (fun c17 => ?_) (fun c17 => ?_)
                      · skip
                        refine JJ_iconst (v := 0) dX12_copy_115 rfl ?_
                        refine JJ_istore (lv' := [(6, .int 0), (0, .ref o), (1, .int (nI k)), (2, .int (nI f)), (3, .int (nI u)), (4, .int (nI g)), (5, .int (nI m))]) dX12_copy_116 (by decide) rfl ?_
                        refine JJ_iconst (v := 0) dX12_copy_118 rfl ?_
                        refine JJ_istore (lv' := [(7, .int 0), (6, .int 0), (0, .ref o), (1, .int (nI k)), (2, .int (nI f)), (3, .int (nI u)), (4, .int (nI g)), (5, .int (nI m))]) dX12_copy_119 (by decide) rfl ?_
                        have hdir : ¬ k = u ∨ g ≤ f := Or.inl (fun e => c17 (by rw [e]))
                        have key : ∀ (d q : Nat) (Mx : Nat → Nat → Int32), q + d = m → (∀ x, x < q → Mx (o + 18) (40 * u + (g + x)) = M (o + 18) (40 * k + (f + x))) → (∀ b l, ¬ (b = o + 18 ∧ 40 * u + g ≤ l ∧ l < 40 * u + g + q) → Mx b l = M b l) → JJ G sc yX12_copy cX12_copy 9 (some .int) 3 0 0 (zI o n S M P (zr_copy A (nI k) (nI f) (nI u) (nI g) (nI m)).1 (zr_copy A (nI k) (nI f) (nI u) (nI g) (nI m)).2) 121 [(7, .int (nI q)), (6, .int 0), (0, .ref o), (1, .int (nI k)), (2, .int (nI f)), (3, .int (nI u)), (4, .int (nI g)), (5, .int (nI m))] [] (n, S, Mx, L, P) := by
                          intro d
                          induction d with
                          | zero =>
                            intro q Mx hq hz hx
                            refine JJ_iload dX12_copy_121 rfl ?_
                            refine JJ_iload dX12_copy_123 rfl ?_
                            refine JJ_icmp_ge (tgt := 182) dX12_copy_125 (by decide) (fun _ => ?_) (fun c18 => absurd (nI_le (by omega) (by omega)) c18)
                            refine JJ_iload dX12_copy_182 rfl ?_
                            refine JJ_iret dX12_copy_184 rfl ?_
                            exact zI_r (by rw [e0]) (by rw [e0]; exact copy_abs hk4 hu4 (by omega) (by omega) hA (fun x hx1 => hz x (by omega)) (fun b l z => hx b l (by omega))) (fun b l z => hx b l (fun e => z (by unfold RO; omega)))
                          | succ d ih =>
                            intro q Mx hq hz hx
                            have hsrc : Mx (o + 18) (40 * k + f + (q)) = M (o + 18) (40 * k + f + (q)) := hx _ _ (by omega)
                            refine JJ_iload dX12_copy_121 rfl ?_
                            refine JJ_iload dX12_copy_123 rfl ?_
                            refine JJ_icmp_ge (tgt := 182) dX12_copy_125 (by decide) (fun c19 => absurd c19 (nI_ge (by omega) (by omega))) (fun _ => ?_)
                            refine JJ_iload dX12_copy_128 rfl ?_
                            refine JJ_if_eq (tgt := 143) dX12_copy_130 (by decide) (fun _ => ?_) (fun c20 => absurd (by decide) c20)
                            refine JJ_iload dX12_copy_143 rfl ?_
                            refine JJ_istore (lv' := [(8, .int (nI q)), (7, .int (nI q)), (6, .int 0), (0, .ref o), (1, .int (nI k)), (2, .int (nI f)), (3, .int (nI u)), (4, .int (nI g)), (5, .int (nI m))]) dX12_copy_145 (by decide) rfl ?_
                            refine JJ_aload_n dX12_copy_147 rfl rfl ?_
                            refine JJ_getr (q := o + 18) (cis := [12]) (k := 50) fa_X12_69 (by decide) hR.1 rfl (hR.2 (50, 18, 20, 160) (by decide)).1 dX12_copy_148 ?_
                            refine JJ_bipush (v := 40) dX12_copy_151 rfl ?_
                            refine JJ_iload_n dX12_copy_153 rfl rfl ?_
                            refine JJ_imul dX12_copy_154 ?_
                            refine JJ_eqi (x2 := nI (40 * u)) (pk_mul (40) (u)) ?_
                            refine JJ_iload dX12_copy_155 rfl ?_
                            refine JJ_iadd dX12_copy_157 ?_
                            refine JJ_eqi (x2 := nI (40 * u + g)) (nI_add (40 * u) (g)) ?_
                            refine JJ_iload dX12_copy_158 rfl ?_
                            refine JJ_iadd dX12_copy_160 ?_
                            refine JJ_eqi (x2 := nI (40 * u + g + q)) (nI_add (40 * u + g) (q)) ?_
                            refine JJ_aload_n dX12_copy_161 rfl rfl ?_
                            refine JJ_getr (q := o + 18) (cis := [12]) (k := 50) fa_X12_69 (by decide) hR.1 rfl (hR.2 (50, 18, 20, 160) (by decide)).1 dX12_copy_162 ?_
                            refine JJ_bipush (v := 40) dX12_copy_165 rfl ?_
                            refine JJ_iload_n dX12_copy_167 rfl rfl ?_
                            refine JJ_imul dX12_copy_168 ?_
                            refine JJ_eqi (x2 := nI (40 * k)) (pk_mul (40) (k)) ?_
                            refine JJ_iload_n dX12_copy_169 rfl rfl ?_
                            refine JJ_iadd dX12_copy_170 ?_
                            refine JJ_eqi (x2 := nI (40 * k + f)) (nI_add (40 * k) (f)) ?_
                            refine JJ_iload dX12_copy_171 rfl ?_
                            refine JJ_iadd dX12_copy_173 ?_
                            refine JJ_eqi (x2 := nI (40 * k + f + q)) (nI_add (40 * k + f) (q)) ?_
                            refine JJ_ialdX (v := M (o + 18) (40 * k + f + (q))) (hR.2 (50, 18, 20, 160) (by decide)).2 (IX_nI (by omega) (by omega)) (hN.2.1 18 _ (by decide) (by decide)) hsrc dX12_copy_174 ?_
                            refine JJ_iastX (hR.2 (50, 18, 20, 160) (by decide)).2 (IX_nI (by omega) (by omega)) dX12_copy_175 (fun M21 hM22 => ?_)
                            refine JJ_iinc (v := nI (q + 1)) (lv' := [(7, .int (nI (q + 1))), (8, .int (nI q)), (6, .int 0), (0, .ref o), (1, .int (nI k)), (2, .int (nI f)), (3, .int (nI u)), (4, .int (nI g)), (5, .int (nI m))]) dX12_copy_176 rfl (nI_add (q) 1) (by decide) rfl ?_
                            refine JJ_goto (tgt := 121) dX12_copy_179 (by decide) ?_
                            refine JJ.pick [0, 2, 3, 4, 5, 6, 7, 8] rfl ?_
                            refine ih (q + 1) M21 (by omega) (fun x hx1 => ?_) (fun b l z => (rd_n hM22 (by omega) rfl).trans (hx b l (by omega)))
                            by_cases ej : x = q
                            · rw [show 40 * u + (g + x) = 40 * u + g + (q) by omega, show 40 * k + (f + x) = 40 * k + f + (q) by omega]; exact rd_s hM22
                            · exact (rd_n hM22 (by omega) rfl).trans (hz x (by omega))
                        refine JJ.pick [0, 1, 2, 3, 4, 5, 6, 7] rfl ?_
                        exact key m 0 M (by omega) (fun x hx1 => by omega) (fun _ _ _ => rfl)
                      · skip
                        refine JJ_iload_n dX12_copy_105 rfl rfl ?_
                        refine JJ_iload dX12_copy_106 rfl ?_
                        refine JJ_icmp_ge (tgt := 115) dX12_copy_108 (by decide) (fun c23 => ?_) (fun c23 => ?_)
                        · skip
                          refine JJ_iconst (v := 0) dX12_copy_115 rfl ?_
                          refine JJ_istore (lv' := [(6, .int 0), (0, .ref o), (1, .int (nI k)), (2, .int (nI f)), (3, .int (nI u)), (4, .int (nI g)), (5, .int (nI m))]) dX12_copy_116 (by decide) rfl ?_
                          refine JJ_iconst (v := 0) dX12_copy_118 rfl ?_
                          refine JJ_istore (lv' := [(7, .int 0), (6, .int 0), (0, .ref o), (1, .int (nI k)), (2, .int (nI f)), (3, .int (nI u)), (4, .int (nI g)), (5, .int (nI m))]) dX12_copy_119 (by decide) rfl ?_
                          have hdir : ¬ k = u ∨ g ≤ f := Or.inr ((nI_leI (by omega) (by omega)).mp c23)
                          have key : ∀ (d q : Nat) (Mx : Nat → Nat → Int32), q + d = m → (∀ x, x < q → Mx (o + 18) (40 * u + (g + x)) = M (o + 18) (40 * k + (f + x))) → (∀ b l, ¬ (b = o + 18 ∧ 40 * u + g ≤ l ∧ l < 40 * u + g + q) → Mx b l = M b l) → JJ G sc yX12_copy cX12_copy 9 (some .int) 3 0 0 (zI o n S M P (zr_copy A (nI k) (nI f) (nI u) (nI g) (nI m)).1 (zr_copy A (nI k) (nI f) (nI u) (nI g) (nI m)).2) 121 [(7, .int (nI q)), (6, .int 0), (0, .ref o), (1, .int (nI k)), (2, .int (nI f)), (3, .int (nI u)), (4, .int (nI g)), (5, .int (nI m))] [] (n, S, Mx, L, P) := by
                            intro d
                            induction d with
                            | zero =>
                              intro q Mx hq hz hx
                              refine JJ_iload dX12_copy_121 rfl ?_
                              refine JJ_iload dX12_copy_123 rfl ?_
                              refine JJ_icmp_ge (tgt := 182) dX12_copy_125 (by decide) (fun _ => ?_) (fun c24 => absurd (nI_le (by omega) (by omega)) c24)
                              refine JJ_iload dX12_copy_182 rfl ?_
                              refine JJ_iret dX12_copy_184 rfl ?_
                              exact zI_r (by rw [e0]) (by rw [e0]; exact copy_abs hk4 hu4 (by omega) (by omega) hA (fun x hx1 => hz x (by omega)) (fun b l z => hx b l (by omega))) (fun b l z => hx b l (fun e => z (by unfold RO; omega)))
                            | succ d ih =>
                              intro q Mx hq hz hx
                              have hsrc : Mx (o + 18) (40 * k + f + (q)) = M (o + 18) (40 * k + f + (q)) := hx _ _ (by omega)
                              refine JJ_iload dX12_copy_121 rfl ?_
                              refine JJ_iload dX12_copy_123 rfl ?_
                              refine JJ_icmp_ge (tgt := 182) dX12_copy_125 (by decide) (fun c25 => absurd c25 (nI_ge (by omega) (by omega))) (fun _ => ?_)
                              refine JJ_iload dX12_copy_128 rfl ?_
                              refine JJ_if_eq (tgt := 143) dX12_copy_130 (by decide) (fun _ => ?_) (fun c26 => absurd (by decide) c26)
                              refine JJ_iload dX12_copy_143 rfl ?_
                              refine JJ_istore (lv' := [(8, .int (nI q)), (7, .int (nI q)), (6, .int 0), (0, .ref o), (1, .int (nI k)), (2, .int (nI f)), (3, .int (nI u)), (4, .int (nI g)), (5, .int (nI m))]) dX12_copy_145 (by decide) rfl ?_
                              refine JJ_aload_n dX12_copy_147 rfl rfl ?_
                              refine JJ_getr (q := o + 18) (cis := [12]) (k := 50) fa_X12_69 (by decide) hR.1 rfl (hR.2 (50, 18, 20, 160) (by decide)).1 dX12_copy_148 ?_
                              refine JJ_bipush (v := 40) dX12_copy_151 rfl ?_
                              refine JJ_iload_n dX12_copy_153 rfl rfl ?_
                              refine JJ_imul dX12_copy_154 ?_
                              refine JJ_eqi (x2 := nI (40 * u)) (pk_mul (40) (u)) ?_
                              refine JJ_iload dX12_copy_155 rfl ?_
                              refine JJ_iadd dX12_copy_157 ?_
                              refine JJ_eqi (x2 := nI (40 * u + g)) (nI_add (40 * u) (g)) ?_
                              refine JJ_iload dX12_copy_158 rfl ?_
                              refine JJ_iadd dX12_copy_160 ?_
                              refine JJ_eqi (x2 := nI (40 * u + g + q)) (nI_add (40 * u + g) (q)) ?_
                              refine JJ_aload_n dX12_copy_161 rfl rfl ?_
                              refine JJ_getr (q := o + 18) (cis := [12]) (k := 50) fa_X12_69 (by decide) hR.1 rfl (hR.2 (50, 18, 20, 160) (by decide)).1 dX12_copy_162 ?_
                              refine JJ_bipush (v := 40) dX12_copy_165 rfl ?_
                              refine JJ_iload_n dX12_copy_167 rfl rfl ?_
                              refine JJ_imul dX12_copy_168 ?_
                              refine JJ_eqi (x2 := nI (40 * k)) (pk_mul (40) (k)) ?_
                              refine JJ_iload_n dX12_copy_169 rfl rfl ?_
                              refine JJ_iadd dX12_copy_170 ?_
                              refine JJ_eqi (x2 := nI (40 * k + f)) (nI_add (40 * k) (f)) ?_
                              refine JJ_iload dX12_copy_171 rfl ?_
                              refine JJ_iadd dX12_copy_173 ?_
                              refine JJ_eqi (x2 := nI (40 * k + f + q)) (nI_add (40 * k + f) (q)) ?_
                              refine JJ_ialdX (v := M (o + 18) (40 * k + f + (q))) (hR.2 (50, 18, 20, 160) (by decide)).2 (IX_nI (by omega) (by omega)) (hN.2.1 18 _ (by decide) (by decide)) hsrc dX12_copy_174 ?_
                              refine JJ_iastX (hR.2 (50, 18, 20, 160) (by decide)).2 (IX_nI (by omega) (by omega)) dX12_copy_175 (fun M27 hM28 => ?_)
                              refine JJ_iinc (v := nI (q + 1)) (lv' := [(7, .int (nI (q + 1))), (8, .int (nI q)), (6, .int 0), (0, .ref o), (1, .int (nI k)), (2, .int (nI f)), (3, .int (nI u)), (4, .int (nI g)), (5, .int (nI m))]) dX12_copy_176 rfl (nI_add (q) 1) (by decide) rfl ?_
                              refine JJ_goto (tgt := 121) dX12_copy_179 (by decide) ?_
                              refine JJ.pick [0, 2, 3, 4, 5, 6, 7, 8] rfl ?_
                              refine ih (q + 1) M27 (by omega) (fun x hx1 => ?_) (fun b l z => (rd_n hM28 (by omega) rfl).trans (hx b l (by omega)))
                              by_cases ej : x = q
                              · rw [show 40 * u + (g + x) = 40 * u + g + (q) by omega, show 40 * k + (f + x) = 40 * k + f + (q) by omega]; exact rd_s hM28
                              · exact (rd_n hM28 (by omega) rfl).trans (hz x (by omega))
                          refine JJ.pick [0, 1, 2, 3, 4, 5, 6, 7] rfl ?_
                          exact key m 0 M (by omega) (fun x hx1 => by omega) (fun _ _ _ => rfl)
                        · skip
                          refine JJ_iconst (v := 1) dX12_copy_111 rfl ?_
                          refine JJ_goto (tgt := 116) dX12_copy_112 (by decide) ?_
                          refine JJ_istore (lv' := [(6, .int 1), (0, .ref o), (1, .int (nI k)), (2, .int (nI f)), (3, .int (nI u)), (4, .int (nI g)), (5, .int (nI m))]) dX12_copy_116 (by decide) rfl ?_
                          refine JJ_iconst (v := 0) dX12_copy_118 rfl ?_
                          refine JJ_istore (lv' := [(7, .int 0), (6, .int 1), (0, .ref o), (1, .int (nI k)), (2, .int (nI f)), (3, .int (nI u)), (4, .int (nI g)), (5, .int (nI m))]) dX12_copy_119 (by decide) rfl ?_
                          have hdir : k = u ∧ f < g := ⟨nI_inj (by omega) (by omega) c17, by have := c23; rw [nI_leI (by omega) (by omega)] at this; omega⟩
                          have key : ∀ (d q : Nat) (Mx : Nat → Nat → Int32), q + d = m → (∀ x, m - q ≤ x ∧ x < m → Mx (o + 18) (40 * u + (g + x)) = M (o + 18) (40 * k + (f + x))) → (∀ b l, ¬ (b = o + 18 ∧ 40 * u + g + m - q ≤ l ∧ l < 40 * u + g + m) → Mx b l = M b l) → JJ G sc yX12_copy cX12_copy 9 (some .int) 3 0 0 (zI o n S M P (zr_copy A (nI k) (nI f) (nI u) (nI g) (nI m)).1 (zr_copy A (nI k) (nI f) (nI u) (nI g) (nI m)).2) 121 [(7, .int (nI q)), (6, .int 1), (0, .ref o), (1, .int (nI k)), (2, .int (nI f)), (3, .int (nI u)), (4, .int (nI g)), (5, .int (nI m))] [] (n, S, Mx, L, P) := by
                            intro d
                            induction d with
                            | zero =>
                              intro q Mx hq hz hx
                              refine JJ_iload dX12_copy_121 rfl ?_
                              refine JJ_iload dX12_copy_123 rfl ?_
                              refine JJ_icmp_ge (tgt := 182) dX12_copy_125 (by decide) (fun _ => ?_) (fun c29 => absurd (nI_le (by omega) (by omega)) c29)
                              refine JJ_iload dX12_copy_182 rfl ?_
                              refine JJ_iret dX12_copy_184 rfl ?_
                              exact zI_r (by rw [e0]) (by rw [e0]; exact copy_abs hk4 hu4 (by omega) (by omega) hA (fun x hx1 => hz x (by omega)) (fun b l z => hx b l (by omega))) (fun b l z => hx b l (fun e => z (by unfold RO; omega)))
                            | succ d ih =>
                              intro q Mx hq hz hx
                              have hsrc : Mx (o + 18) (40 * k + f + (m - 1 - q)) = M (o + 18) (40 * k + f + (m - 1 - q)) := hx _ _ (by omega)
                              refine JJ_iload dX12_copy_121 rfl ?_
                              refine JJ_iload dX12_copy_123 rfl ?_
                              refine JJ_icmp_ge (tgt := 182) dX12_copy_125 (by decide) (fun c30 => absurd c30 (nI_ge (by omega) (by omega))) (fun _ => ?_)
                              refine JJ_iload dX12_copy_128 rfl ?_
                              refine JJ_if_eq (tgt := 143) dX12_copy_130 (by decide) (fun c31 => absurd c31 (by decide)) (fun _ => ?_)
                              refine JJ_iload dX12_copy_133 rfl ?_
                              refine JJ_iconst (v := 1) dX12_copy_135 rfl ?_
                              refine JJ_isub dX12_copy_136 ?_
                              refine JJ_eqi (x2 := nI (m - 1)) (pk_sub (a := m) (b := 1) (by omega)) ?_
                              refine JJ_iload dX12_copy_137 rfl ?_
                              refine JJ_isub dX12_copy_139 ?_
                              refine JJ_eqi (x2 := nI (m - 1 - q)) (pk_sub (a := m - 1) (b := q) (by omega)) ?_
                              refine JJ_goto (tgt := 145) dX12_copy_140 (by decide) ?_
                              refine JJ_istore (lv' := [(8, .int (nI (m - 1 - q))), (7, .int (nI q)), (6, .int 1), (0, .ref o), (1, .int (nI k)), (2, .int (nI f)), (3, .int (nI u)), (4, .int (nI g)), (5, .int (nI m))]) dX12_copy_145 (by decide) rfl ?_
                              refine JJ_aload_n dX12_copy_147 rfl rfl ?_
                              refine JJ_getr (q := o + 18) (cis := [12]) (k := 50) fa_X12_69 (by decide) hR.1 rfl (hR.2 (50, 18, 20, 160) (by decide)).1 dX12_copy_148 ?_
                              refine JJ_bipush (v := 40) dX12_copy_151 rfl ?_
                              refine JJ_iload_n dX12_copy_153 rfl rfl ?_
                              refine JJ_imul dX12_copy_154 ?_
                              refine JJ_eqi (x2 := nI (40 * u)) (pk_mul (40) (u)) ?_
                              refine JJ_iload dX12_copy_155 rfl ?_
                              refine JJ_iadd dX12_copy_157 ?_
                              refine JJ_eqi (x2 := nI (40 * u + g)) (nI_add (40 * u) (g)) ?_
                              refine JJ_iload dX12_copy_158 rfl ?_
                              refine JJ_iadd dX12_copy_160 ?_
                              refine JJ_eqi (x2 := nI (40 * u + g + (m - 1 - q))) (nI_add (40 * u + g) (m - 1 - q)) ?_
                              refine JJ_aload_n dX12_copy_161 rfl rfl ?_
                              refine JJ_getr (q := o + 18) (cis := [12]) (k := 50) fa_X12_69 (by decide) hR.1 rfl (hR.2 (50, 18, 20, 160) (by decide)).1 dX12_copy_162 ?_
                              refine JJ_bipush (v := 40) dX12_copy_165 rfl ?_
                              refine JJ_iload_n dX12_copy_167 rfl rfl ?_
                              refine JJ_imul dX12_copy_168 ?_
                              refine JJ_eqi (x2 := nI (40 * k)) (pk_mul (40) (k)) ?_
                              refine JJ_iload_n dX12_copy_169 rfl rfl ?_
                              refine JJ_iadd dX12_copy_170 ?_
                              refine JJ_eqi (x2 := nI (40 * k + f)) (nI_add (40 * k) (f)) ?_
                              refine JJ_iload dX12_copy_171 rfl ?_
                              refine JJ_iadd dX12_copy_173 ?_
                              refine JJ_eqi (x2 := nI (40 * k + f + (m - 1 - q))) (nI_add (40 * k + f) (m - 1 - q)) ?_
                              refine JJ_ialdX (v := M (o + 18) (40 * k + f + (m - 1 - q))) (hR.2 (50, 18, 20, 160) (by decide)).2 (IX_nI (by omega) (by omega)) (hN.2.1 18 _ (by decide) (by decide)) hsrc dX12_copy_174 ?_
                              refine JJ_iastX (hR.2 (50, 18, 20, 160) (by decide)).2 (IX_nI (by omega) (by omega)) dX12_copy_175 (fun M32 hM33 => ?_)
                              refine JJ_iinc (v := nI (q + 1)) (lv' := [(7, .int (nI (q + 1))), (8, .int (nI (m - 1 - q))), (6, .int 1), (0, .ref o), (1, .int (nI k)), (2, .int (nI f)), (3, .int (nI u)), (4, .int (nI g)), (5, .int (nI m))]) dX12_copy_176 rfl (nI_add (q) 1) (by decide) rfl ?_
                              refine JJ_goto (tgt := 121) dX12_copy_179 (by decide) ?_
                              refine JJ.pick [0, 2, 3, 4, 5, 6, 7, 8] rfl ?_
                              refine ih (q + 1) M32 (by omega) (fun x hx1 => ?_) (fun b l z => (rd_n hM33 (by omega) rfl).trans (hx b l (by omega)))
                              by_cases ej : x = m - 1 - q
                              · rw [show 40 * u + (g + x) = 40 * u + g + (m - 1 - q) by omega, show 40 * k + (f + x) = 40 * k + f + (m - 1 - q) by omega]; exact rd_s hM33
                              · exact (rd_n hM33 (by omega) rfl).trans (hz x (by omega))
                          refine JJ.pick [0, 1, 2, 3, 4, 5, 6, 7] rfl ?_
                          exact key m 0 M (by omega) (fun x hx1 => by omega) (fun _ _ _ => rfl)
                    · skip
                      refine JJ_bipush (v := (-12)) dX12_copy_97 rfl ?_
                      refine JJ_iret dX12_copy_99 rfl ?_
                      rw [if_neg (fun z => z c11), if_pos (fun z => (cp_n hN240 (Int32.not_lt.mp c12) (Int32.not_lt.mp c14) (Int32.not_le.mp c16) z.2.2.2.2))] at e0
                      exact zI_r (by rw [e0]) (by rw [e0]; exact hA) (fun _ _ _ => rfl)
          · skip
            refine JJ_bipush (v := (-13)) dX12_copy_53 rfl ?_
            refine JJ_iret dX12_copy_55 rfl ?_
            rw [if_pos c11] at e0
            exact zI_r (by rw [e0]) (by rw [e0]; exact hA) (fun _ _ _ => rfl)
        · skip
          refine JJ_bipush (v := (-11)) dX12_copy_35 rfl ?_
          refine JJ_iret dX12_copy_37 rfl ?_
          rw [if_pos (Or.inr c10)] at e0
          exact zI_r (by rw [e0]) (by rw [e0]; exact hA) (fun _ _ _ => rfl)
    · skip
      refine JJ_bipush (v := (-2)) dX12_copy_14 rfl ?_
      refine JJ_iret dX12_copy_16 rfl ?_
      have e0 : zr_copy A s i t j nn = (-2, A) := if_pos (fun z => b2_0.mp c8 z.2)
      exact zI_r (by rw [e0]) (by rw [e0]; exact hA) (fun _ _ _ => rfl)
end REF16
