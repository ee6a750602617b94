section REF15
variable {G : Gx} {sc : Nat → Nat → Prop} {n : Nat} {S : Nat → Nat × Nat} {M : Nat → Nat → Int32} {L : Nat → Nat → Int64} {P : Nat → Nat → Option Nat} {o : Nat}

set_option maxHeartbeats 4000000 in
set_option maxRecDepth 100000 in
theorem kr_sheet0 {s so nn : Int32} {A : Abs} (hA : rABS o M A) (hg2 : RNG2 A) (hR : RWF o S P) (hN : HSR o sc) : KK G sc yX12_sheet cX12_sheet 5 (some .int) 3 0 0 [.ref o, .int s, .int so, .int nn] (n, S, M, L, P) (fun v μ => v = some (.int (zr_sheet A s so nn).1) ∧ ∃ M', μ = (n, S, M', L, P) ∧ rABS o M' (zr_sheet A s so nn).2 ∧ ∀ b k, (b = o ∨ b = o + 12 ∨ ¬ RO o b) → M' b k = M b k) := by
  have hg : RNG A := hg2.1
  refine KK_of2 [(0, .ref o), (1, .int s), (2, .int so), (3, .int nn)] (by decide +kernel) (Nat.le_of_ble_eq_true rfl) rfl ?_
  refine JJ_iload_n dX12_sheet_0 rfl rfl ?_
  refine JJ_callS (rest := []) (kr_isSheet (v := s)) (by decide) mi_X12_isSheet lk_X12_309 rfl (Nat.le_of_ble_eq_true rfl) rfl rfl dX12_sheet_1 ?_
  intro v1 μ2 h3
  obtain ⟨rfl, rfl⟩ := h3
  refine JJ_r1 ?_
  refine JJ_if_eq (tgt := 31) dX12_sheet_4 (by decide) (fun c4 => ?_) (fun c4 => ?_)
  · skip
    refine JJ_bipush (v := (-2)) dX12_sheet_31 rfl ?_
    refine JJ_iret dX12_sheet_33 rfl ?_
    have e0 : zr_sheet A s so nn = (-2, A) := if_pos (fun z => b2_0.mp c4 z.1)
    exact ⟨by rw [e0], M, rfl, by rw [e0]; exact hA, fun _ _ _ => rfl⟩
  · skip
    refine JJ_iload_n dX12_sheet_7 rfl rfl ?_
    refine JJ_i2l dX12_sheet_8 ?_
    refine JJ_ldc2 (v := (-1)) dX12_sheet_9 tb_1104 ?_
    refine JJ_ldc2 (v := 2) dX12_sheet_12 tb_1337 ?_
    refine JJ_callS (rest := []) (kr_in32 (v := so) (lo := (-1)) (hi := 2) (a := -1) (b := 2) rfl rfl) (by decide) mi_X12_in lk_X12_82 rfl (Nat.le_of_ble_eq_true rfl) rfl rfl dX12_sheet_15 ?_
    intro v5 μ6 h7
    obtain ⟨rfl, rfl⟩ := h7
    refine JJ_r1 ?_
    refine JJ_if_eq (tgt := 31) dX12_sheet_18 (by decide) (fun c8 => ?_) (fun c8 => ?_)
    · skip
      refine JJ_bipush (v := (-2)) dX12_sheet_31 rfl ?_
      refine JJ_iret dX12_sheet_33 rfl ?_
      have e0 : zr_sheet A s so nn = (-2, A) := if_pos (fun z => b2_0.mp c8 z.2)
      exact ⟨by rw [e0], M, rfl, by rw [e0]; exact hA, fun _ _ _ => rfl⟩
    · skip
      refine JJ_iload_n dX12_sheet_21 rfl rfl ?_
      refine JJ_if_lt (tgt := 34) dX12_sheet_22 (by decide) (fun c9 => ?_) (fun c9 => ?_)
      · skip
        obtain ⟨k, hk3, rfl⟩ := n_of (m := 3) (by decide) (b2_n.mp c4)
        have hk4 : k < 4 := by omega
        refine JJ_iload_n dX12_sheet_34 rfl rfl ?_
        refine JJ_if_lt (tgt := 45) dX12_sheet_35 (by decide) (fun _ => ?_) (fun c10 => absurd c9 c10)
        have e0 : zr_sheet A (nI k) so nn = (1, zSheet A k 0 so nn 0 (fun _ => 0)) := ((if_neg (fun z => z ⟨b2_n.mp c4, b2_n.mp c8⟩)).trans (if_neg (Int32.not_le.mpr c9))).trans (by rw [show i2n (nI k) = k from nI_clamp (by omega)])
        refine JJ_aload_n dX12_sheet_45 rfl rfl ?_
        refine JJ_getr (q := o + 15) (cis := [12]) (k := 47) fa_X12_59 (by decide) hR.1 rfl (hR.2 (47, 15, 21, 4) (by decide)).1 dX12_sheet_46 ?_
        refine JJ_iload_n dX12_sheet_49 rfl rfl ?_
        refine JJ_iload_n dX12_sheet_50 rfl rfl ?_
        refine JJ_if_lt (tgt := 58) dX12_sheet_51 (by decide) (fun _ => ?_) (fun c11 => absurd c9 c11)
        refine JJ_iconst (v := 0) dX12_sheet_58 rfl ?_
        refine JJ_zastX (hR.2 (47, 15, 21, 4) (by decide)).2 (IX_nI (by omega) (by omega)) (Or.inl rfl) dX12_sheet_59 (fun M12 hM13 => ?_)
        refine JJ_aload_n dX12_sheet_60 rfl rfl ?_
        refine JJ_getr (q := o + 16) (cis := [12]) (k := 48) fa_X12_63 (by decide) hR.1 rfl (hR.2 (48, 16, 20, 4) (by decide)).1 dX12_sheet_61 ?_
        refine JJ_iload_n dX12_sheet_64 rfl rfl ?_
        refine JJ_iload_n dX12_sheet_65 rfl rfl ?_
        refine JJ_iastX (hR.2 (48, 16, 20, 4) (by decide)).2 (IX_nI (by omega) (by omega)) dX12_sheet_66 (fun M14 hM15 => ?_)
        refine JJ_aload_n dX12_sheet_67 rfl rfl ?_
        refine JJ_getr (q := o + 17) (cis := [12]) (k := 49) fa_X12_66 (by decide) hR.1 rfl (hR.2 (49, 17, 20, 4) (by decide)).1 dX12_sheet_68 ?_
        refine JJ_iload_n dX12_sheet_71 rfl rfl ?_
        refine JJ_iload_n dX12_sheet_72 rfl rfl ?_
        refine JJ_iastX (hR.2 (49, 17, 20, 4) (by decide)).2 (IX_nI (by omega) (by omega)) dX12_sheet_73 (fun M16 hM17 => ?_)
        refine JJ_iconst (v := 0) dX12_sheet_74 rfl ?_
        refine JJ_istore (lv' := [(4, .int 0), (0, .ref o), (1, .int (nI k)), (2, .int so), (3, .int nn)]) dX12_sheet_75 (by decide) rfl ?_
        refine JJ_iload dX12_sheet_77 rfl ?_
        refine JJ_iload_n dX12_sheet_79 rfl rfl ?_
        refine JJ_icmp_ge (tgt := 106) dX12_sheet_80 (by decide) (fun c18 => ?_) (fun c18 => ?_)
        · skip
          refine JJ_iconst (v := 1) dX12_sheet_106 rfl ?_
          refine JJ_iret dX12_sheet_107 rfl ?_
          exact ⟨by rw [e0], M16, rfl, by rw [e0]; exact sheet_abs hk4 (by omega) hA (rd_n hM17 (by omega) (rd_n hM15 (by omega) (rd_s hM13))) (rd_n hM17 (by omega) (rd_s hM15)) (rd_s hM17) (fun j hj => absurd hj (Nat.not_lt_zero j)) (fun b k z1 z2 z3 z4 => rd_n hM17 (by omega) (rd_n hM15 (by omega) (rd_n hM13 (by omega) (rfl)))), fun b k z => rd_n hM17 (fun e => by unfold RO at z; omega) (rd_n hM15 (fun e => by unfold RO at z; omega) (rd_n hM13 (fun e => by unfold RO at z; omega) (rfl)))⟩
        · skip
          refine JJ_iload_n dX12_sheet_83 rfl rfl ?_
          refine JJ_if_lt (tgt := 106) dX12_sheet_84 (by decide) (fun _ => ?_) (fun c19 => absurd c9 c19)
          refine JJ_iconst (v := 1) dX12_sheet_106 rfl ?_
          refine JJ_iret dX12_sheet_107 rfl ?_
          exact ⟨by rw [e0], M16, rfl, by rw [e0]; exact sheet_abs hk4 (by omega) hA (rd_n hM17 (by omega) (rd_n hM15 (by omega) (rd_s hM13))) (rd_n hM17 (by omega) (rd_s hM15)) (rd_s hM17) (fun j hj => absurd hj (Nat.not_lt_zero j)) (fun b k z1 z2 z3 z4 => rd_n hM17 (by omega) (rd_n hM15 (by omega) (rd_n hM13 (by omega) (rfl)))), fun b k z => rd_n hM17 (fun e => by unfold RO at z; omega) (rd_n hM15 (fun e => by unfold RO at z; omega) (rd_n hM13 (fun e => by unfold RO at z; omega) (rfl)))⟩
      · skip
        refine JJ_iload_n dX12_sheet_25 rfl rfl ?_
        refine JJ_bipush (v := 40) dX12_sheet_26 rfl ?_
        refine JJ_icmp_le (tgt := 34) dX12_sheet_28 (by decide) (fun c20 => ?_) (fun c20 => ?_)
        · skip
          obtain ⟨k, hk3, rfl⟩ := n_of (m := 3) (by decide) (b2_n.mp c4)
          have hk4 : k < 4 := by omega
          refine JJ_iload_n dX12_sheet_34 rfl rfl ?_
          refine JJ_if_lt (tgt := 45) dX12_sheet_35 (by decide) (fun c21 => absurd c21 c9) (fun _ => ?_)
          refine JJ_iload_n dX12_sheet_38 rfl rfl ?_
          refine JJ_if_ge (tgt := 45) dX12_sheet_39 (by decide) (fun c22 => ?_) (fun c22 => ?_)
          · skip
            obtain ⟨N, hN40, rfl⟩ : ∃ N, N ≤ 40 ∧ nn = nI N := by
              have h1 := i_le.mp c22
              have h2 := i_le.mp c20
              exact ⟨nn.toInt.toNat, by have : (40 : Int32).toInt = 40 := rfl; omega, by have : (0 : Int32).toInt = 0 := rfl; rw [i_eq, nI_toInt (by have : (40 : Int32).toInt = 40 := rfl; omega)]; omega⟩
            have e0 : zr_sheet A (nI k) so (nI N) = (1, zSheet A k 1 so (nI N) N (fun _ => 0)) := ((if_neg (fun z => z ⟨b2_n.mp c4, b2_n.mp c8⟩)).trans ((if_pos (Int32.not_lt.mp c9)).trans ((if_neg (Int32.not_lt.mpr c20)).trans (if_neg (Int32.not_lt.mpr c22))))).trans (by rw [show i2n (nI k) = k from nI_clamp (by omega), show i2n (nI N) = N from nI_clamp (by omega)])
            refine JJ_aload_n dX12_sheet_45 rfl rfl ?_
            refine JJ_getr (q := o + 15) (cis := [12]) (k := 47) fa_X12_59 (by decide) hR.1 rfl (hR.2 (47, 15, 21, 4) (by decide)).1 dX12_sheet_46 ?_
            refine JJ_iload_n dX12_sheet_49 rfl rfl ?_
            refine JJ_iload_n dX12_sheet_50 rfl rfl ?_
            refine JJ_if_lt (tgt := 58) dX12_sheet_51 (by decide) (fun c23 => absurd c23 c9) (fun _ => ?_)
            refine JJ_iconst (v := 1) dX12_sheet_54 rfl ?_
            refine JJ_goto (tgt := 59) dX12_sheet_55 (by decide) ?_
            refine JJ_zastX (hR.2 (47, 15, 21, 4) (by decide)).2 (IX_nI (by omega) (by omega)) (Or.inr rfl) dX12_sheet_59 (fun M24 hM25 => ?_)
            refine JJ_aload_n dX12_sheet_60 rfl rfl ?_
            refine JJ_getr (q := o + 16) (cis := [12]) (k := 48) fa_X12_63 (by decide) hR.1 rfl (hR.2 (48, 16, 20, 4) (by decide)).1 dX12_sheet_61 ?_
            refine JJ_iload_n dX12_sheet_64 rfl rfl ?_
            refine JJ_iload_n dX12_sheet_65 rfl rfl ?_
            refine JJ_iastX (hR.2 (48, 16, 20, 4) (by decide)).2 (IX_nI (by omega) (by omega)) dX12_sheet_66 (fun M26 hM27 => ?_)
            refine JJ_aload_n dX12_sheet_67 rfl rfl ?_
            refine JJ_getr (q := o + 17) (cis := [12]) (k := 49) fa_X12_66 (by decide) hR.1 rfl (hR.2 (49, 17, 20, 4) (by decide)).1 dX12_sheet_68 ?_
            refine JJ_iload_n dX12_sheet_71 rfl rfl ?_
            refine JJ_iload_n dX12_sheet_72 rfl rfl ?_
            refine JJ_iastX (hR.2 (49, 17, 20, 4) (by decide)).2 (IX_nI (by omega) (by omega)) dX12_sheet_73 (fun M28 hM29 => ?_)
            refine JJ_iconst (v := 0) dX12_sheet_74 rfl ?_
            refine JJ_istore (lv' := [(4, .int 0), (0, .ref o), (1, .int (nI k)), (2, .int so), (3, .int (nI N))]) dX12_sheet_75 (by decide) rfl ?_
            have e15 : M28 (o + 15) k = 1 := (rd_n hM29 (by omega) (rd_n hM27 (by omega) (rd_s hM25)))
            have e16 : M28 (o + 16) k = so := (rd_n hM29 (by omega) (rd_s hM27))
            have e17 : M28 (o + 17) k = nI N := (rd_s hM29)
            have h3 : ∀ b l, ¬ (b = o + 15 ∧ l = k) → ¬ (b = o + 16 ∧ l = k) → ¬ (b = o + 17 ∧ l = k) → M28 b l = M b l := fun b l z1 z2 z3 => rd_n hM29 (by omega) (rd_n hM27 (by omega) (rd_n hM25 (by omega) (rfl)))
            have key : ∀ (d i : Nat) (Mx : Nat → Nat → Int32), i + d = N → (∀ j, j < i → Mx (o + 18) (40 * k + j) = 0) → (∀ b l, ¬ (b = o + 18 ∧ 40 * k ≤ l ∧ l < 40 * k + i) → Mx b l = M28 b l) → JJ G sc yX12_sheet cX12_sheet 5 (some .int) 3 0 0 (fun v μ => v = some (.int (zr_sheet A (nI k) so (nI N)).1) ∧ ∃ M', μ = (n, S, M', L, P) ∧ rABS o M' (zr_sheet A (nI k) so (nI N)).2 ∧ ∀ b k, (b = o ∨ b = o + 12 ∨ ¬ RO o b) → M' b k = M b k) 77 [(4, .int (nI i)), (0, .ref o), (1, .int (nI k)), (2, .int so), (3, .int (nI N))] [] (n, S, Mx, L, P) := by
              intro d
              induction d with
              | zero =>
                intro i Mx hi hz hx
                refine JJ_iload dX12_sheet_77 rfl ?_
                refine JJ_iload_n dX12_sheet_79 rfl rfl ?_
                refine JJ_icmp_ge (tgt := 106) dX12_sheet_80 (by decide) (fun _ => ?_) (fun c30 => absurd (nI_le (by omega) (by omega)) c30)
                refine JJ_iconst (v := 1) dX12_sheet_106 rfl ?_
                refine JJ_iret dX12_sheet_107 rfl ?_
                obtain rfl : i = N := by omega
                exact ⟨by rw [e0], Mx, rfl, by rw [e0]; exact sheet_abs hk4 hN40 hA ((hx _ _ (by omega)).trans e15) ((hx _ _ (by omega)).trans e16) ((hx _ _ (by omega)).trans e17) hz (fun b l z1 z2 z3 z4 => (hx b l z4).trans (h3 b l z1 z2 z3)), fun b l z => (hx b l (fun e => by unfold RO at z; omega)).trans (h3 b l (fun e => by unfold RO at z; omega) (fun e => by unfold RO at z; omega) (fun e => by unfold RO at z; omega))⟩
              | succ d ih =>
                intro i Mx hi hz hx
                refine JJ_iload dX12_sheet_77 rfl ?_
                refine JJ_iload_n dX12_sheet_79 rfl rfl ?_
                refine JJ_icmp_ge (tgt := 106) dX12_sheet_80 (by decide) (fun c31 => absurd c31 (nI_ge (by omega) (by omega))) (fun _ => ?_)
                refine JJ_iload_n dX12_sheet_83 rfl rfl ?_
                refine JJ_if_lt (tgt := 106) dX12_sheet_84 (by decide) (fun c32 => absurd c32 c9) (fun _ => ?_)
                refine JJ_aload_n dX12_sheet_87 rfl rfl ?_
                refine JJ_getr (q := o + 18) (cis := [12]) (k := 50) fa_X12_69 (by decide) hR.1 rfl (hR.2 (50, 18, 20, 160) (by decide)).1 dX12_sheet_88 ?_
                refine JJ_bipush (v := 40) dX12_sheet_91 rfl ?_
                refine JJ_iload_n dX12_sheet_93 rfl rfl ?_
                refine JJ_imul dX12_sheet_94 ?_
                refine JJ_eqi (x2 := nI (40 * k)) (pk_mul (40) (k)) ?_
                refine JJ_iload dX12_sheet_95 rfl ?_
                refine JJ_iadd dX12_sheet_97 ?_
                refine JJ_eqi (x2 := nI (40 * k + i)) (nI_add (40 * k) (i)) ?_
                refine JJ_iconst (v := 0) dX12_sheet_98 rfl ?_
                refine JJ_iastX (hR.2 (50, 18, 20, 160) (by decide)).2 (IX_nI (by omega) (by omega)) dX12_sheet_99 (fun M33 hM34 => ?_)
                refine JJ_iinc (v := nI (i + 1)) (lv' := [(4, .int (nI (i + 1))), (0, .ref o), (1, .int (nI k)), (2, .int so), (3, .int (nI N))]) dX12_sheet_100 rfl (nI_add (i) 1) (by decide) rfl ?_
                refine JJ_goto (tgt := 77) dX12_sheet_103 (by decide) ?_
                refine JJ.pick [0, 1, 2, 3, 4] rfl ?_
                refine ih (i + 1) M33 (by omega) (fun j hj => ?_) (fun b l z => (rd_n hM34 (by omega) rfl).trans (hx b l (by omega)))
                by_cases ej : j = i
                · rw [ej]; exact rd_s hM34
                · exact (rd_n hM34 (by omega) rfl).trans (hz j (by omega))
            refine JJ.pick [0, 1, 2, 3, 4] rfl ?_
            exact key N 0 M28 (by omega) (fun j hj => absurd hj (Nat.not_lt_zero j)) (fun _ _ _ => rfl)
          · skip
            refine JJ_bipush (v := (-14)) dX12_sheet_42 rfl ?_
            refine JJ_iret dX12_sheet_44 rfl ?_
            have e0 : zr_sheet A (nI k) so nn = (-14, A) := (if_neg (fun z => z ⟨b2_n.mp c4, b2_n.mp c8⟩)).trans ((if_pos (Int32.not_lt.mp c9)).trans ((if_neg (Int32.not_lt.mpr c20)).trans (if_pos (Int32.not_le.mp c22))))
            exact ⟨by rw [e0], M, rfl, by rw [e0]; exact hA, fun _ _ _ => rfl⟩
        · skip
          refine JJ_bipush (v := (-2)) dX12_sheet_31 rfl ?_
          refine JJ_iret dX12_sheet_33 rfl ?_
          have e0 : zr_sheet A s so nn = (-2, A) := (if_neg (fun z => z ⟨b2_n.mp c4, b2_n.mp c8⟩)).trans ((if_pos (Int32.not_lt.mp c9)).trans (if_pos (Int32.not_le.mp c20)))
          exact ⟨by rw [e0], M, rfl, by rw [e0]; exact hA, fun _ _ _ => rfl⟩
end REF15
