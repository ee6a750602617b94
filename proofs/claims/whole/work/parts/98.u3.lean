section C33
variable {G : Gx} {sc : Nat → Nat → Prop} {n : Nat} {S : Nat → Nat × Nat} {M : Nat → Nat → Int32} {L : Nat → Nat → Int64} {P : Nat → Nat → Option Nat} {x : Nat} {A B : Abs} {b : Nat → Int32} {r m : Nat}

set_option maxHeartbeats 4000000 in
set_option maxRecDepth 100000 in
theorem kc_readSum {d : Nat} {op : Int32} {one : PF} (hsub : RS G sc n S x r b m d yX9_readTerm cX9_readTerm 3 op (gTerm b m one)) (hgd : GD m (gTerm b m one)) (hdd : 8 < d) : RS G sc n S x r b m (d + 1) yX9_readSum cX9_readSum 4 op (gSum b m one) := by
  intro cs i M L P h hC hX
  have hi := h.2.1
  refine KK_of2 [(0, .ref (x + 2)), (1, .int op)] (by decide +kernel) (Nat.le_of_ble_eq_true rfl) rfl ?_
  refine JJ_aload_n dX9_readSum_0 rfl rfl ?_
  refine JJ_iload_n dX9_readSum_1 rfl rfl ?_
  refine JJ_callV (rest := []) (congrArg Prod.fst (hC.sh (t := 2) (k := 10) (m := 0) (by decide))) rfl rfl (hsub _ _ _ _ _ h hC hX) (by omega) mi_X9_readTerm lk_X9_90 rfl (Nat.le_of_ble_eq_true rfl) rfl rfl dX9_readSum_2 ?_
  intro v1 μ2 h3
  obtain ⟨rfl, Mb, rfl, hpo, hkb⟩ := h3
  refine JJ_r0 ?_
  rcases hq : (gTerm b m one) i with q | ⟨c, d0, j⟩
  · skip
    rw [hq] at hpo
    have hpo : RBAD x r b m q P Mb := hpo
    rw [show gSum b m one i = .inl q by show pBind ((gTerm b m one) i) _ = _; rw [hq]; rfl]
    refine JJ_iconst (v := 0) dX9_readSum_5 rfl ?_
    refine JJ_istore_n (lv' := [(2, .int 0), (0, .ref (x + 2)), (1, .int op)]) dX9_readSum_6 rfl (by decide) rfl ?_
    refine JJ_iload_n dX9_readSum_7 rfl rfl ?_
    refine JJ_sipush (v := 160) dX9_readSum_8 rfl ?_
    refine JJ_icmp_ge (tgt := 69) dX9_readSum_11 (by decide) (fun c4 => absurd c4 (by decide)) (fun _ => ?_)
    refine JJ_aload_n dX9_readSum_14 rfl rfl ?_
    refine JJ_geti (v := 9) (cis := [9]) (k := 5) fa_X9_29 (by decide) (congrArg Prod.fst (hC.sh (t := 2) (k := 10) (m := 0) (by decide))) rfl (hX.1 _ _ (by omega) (by omega) (by omega)) hpo.2.2.1 dX9_readSum_15 ?_
    refine JJ_bipush (v := 43) dX9_readSum_18 rfl ?_
    refine JJ_icmp_eq (tgt := 32) dX9_readSum_20 (by decide) (fun c5 => absurd c5 (by decide)) (fun _ => ?_)
    refine JJ_aload_n dX9_readSum_23 rfl rfl ?_
    refine JJ_geti (v := 9) (cis := [9]) (k := 5) fa_X9_29 (by decide) (congrArg Prod.fst (hC.sh (t := 2) (k := 10) (m := 0) (by decide))) rfl (hX.1 _ _ (by omega) (by omega) (by omega)) hpo.2.2.1 dX9_readSum_24 ?_
    refine JJ_bipush (v := 45) dX9_readSum_27 rfl ?_
    refine JJ_icmp_ne (tgt := 69) dX9_readSum_29 (by decide) (fun _ => ?_) (fun c6 => absurd c6 (by decide))
    refine JJ_vret dX9_readSum_69 rfl ?_
    exact ⟨rfl, Mb, rfl, hpo, hkb⟩
  · skip
    rw [hq] at hpo
    have hpo : ROK x r b m (cs ++ c) j P Mb := hpo
    rw [show gSum b m one i = gLoop b m oAdd (gTerm b m one) 160 c d0 j by show pBind ((gTerm b m one) i) _ = _; rw [hq]; rfl]
    have key : ∀ (k k0 : Nat) (c : List Int32) (d0 : Nms → Int32) (j : Nat) (Mx : Nat → Nat → Int32), k0 + k = 160 → ROK x r b m (cs ++ c) j P Mx → (∀ a k, ¬ RCH x r a k → Mx a k = M a k) → JJ G sc yX9_readSum cX9_readSum 4 none (d + 1) 0 0 (fun v μ => v = none ∧ ∃ M', μ = (n, S, M', L, P) ∧ RPO x r b m cs (gLoop b m oAdd (gTerm b m one) k c d0 j) P M' ∧ ∀ a k, ¬ RCH x r a k → M' a k = M a k) 7 [(2, .int (nI k0)), (0, .ref (x + 2)), (1, .int op)] [] (n, S, Mx, L, P) := by
      intro k
      induction k with
      | zero =>
        intro k0 c d0 j Mx hk0 hx hf
        refine JJ_iload_n dX9_readSum_7 rfl rfl ?_
        refine JJ_sipush (v := 160) dX9_readSum_8 rfl ?_
        refine JJ_icmp_ge (tgt := 69) dX9_readSum_11 (by decide) (fun _ => ?_) (fun c7 => absurd (nI_le (a := 160) (by omega) (by omega)) c7)
        refine JJ_vret dX9_readSum_69 rfl ?_
        exact ⟨rfl, Mx, rfl, hx, hf⟩
      | succ k ih =>
        intro k0 c d0 j Mx hk0 hx hf
        by_cases h43 : (tok b m j).1 = 43
        · skip
          have ht := h43
          obtain ⟨e1, e2⟩ := tk_e (b := b) (m := m) (i := j) (by rw [ht]; decide)
          have hlo : gLoop b m oAdd (gTerm b m one) (k + 1) c d0 j = pBind ((gTerm b m one) (tok b m j).2.2.2) (fun c2 d2 j2 => gLoop b m oAdd (gTerm b m one) k (c ++ c2 ++ [(-13)]) (fun nm => (((oAdd 43).getD (0, fun _ _ => 0)).2 (d0 nm) (d2 nm))) j2) := by show (match oAdd (tok b m j).1 with | none => (.inr (c, d0, j) : PR) | some o => pBind ((gTerm b m one) (tok b m j).2.2.2) (fun c2 d2 j2 => gLoop b m oAdd (gTerm b m one) k (c ++ c2 ++ [o.1]) (fun nm => o.2 (d0 nm) (d2 nm)) j2)) = _; rw [ht]; rfl
          rw [hlo]
          refine JJ_iload_n dX9_readSum_7 rfl rfl ?_
          refine JJ_sipush (v := 160) dX9_readSum_8 rfl ?_
          refine JJ_icmp_ge (tgt := 69) dX9_readSum_11 (by decide) (fun c8 => absurd c8 (nI_ge (b := 160) (by omega) (by omega))) (fun _ => ?_)
          refine JJ_aload_n dX9_readSum_14 rfl rfl ?_
          refine JJ_geti (v := (tok b m j).1) (cis := [9]) (k := 5) fa_X9_29 (by decide) (congrArg Prod.fst (hC.sh (t := 2) (k := 10) (m := 0) (by decide))) rfl (hX.1 _ _ (by omega) (by omega) (by omega)) hx.2.2.2.2.2.2.1 dX9_readSum_15 ?_
          refine JJ_bipush (v := 43) dX9_readSum_18 rfl ?_
          refine JJ_icmp_eq (tgt := 32) dX9_readSum_20 (by decide) (fun _ => ?_) (fun c9 => absurd ht c9)
          refine JJ_aload_n dX9_readSum_32 rfl rfl ?_
          refine JJ_geti (v := (tok b m j).1) (cis := [9]) (k := 5) fa_X9_29 (by decide) (congrArg Prod.fst (hC.sh (t := 2) (k := 10) (m := 0) (by decide))) rfl (hX.1 _ _ (by omega) (by omega) (by omega)) hx.2.2.2.2.2.2.1 dX9_readSum_33 ?_
          refine JJ_bipush (v := 43) dX9_readSum_36 rfl ?_
          refine JJ_icmp_ne (tgt := 46) dX9_readSum_38 (by decide) (fun c10 => absurd ht c10) (fun _ => ?_)
          refine JJ_bipush (v := (-13)) dX9_readSum_41 rfl ?_
          refine JJ_goto (tgt := 48) dX9_readSum_43 (by decide) ?_
          refine JJ_istore_n (lv' := [(3, .int ((-13))), (2, .int (nI k0)), (0, .ref (x + 2)), (1, .int op)]) dX9_readSum_48 rfl (by decide) rfl ?_
          refine JJ_aload_n dX9_readSum_49 rfl rfl ?_
          refine JJ_callV (rest := []) (congrArg Prod.fst (hC.sh (t := 2) (k := 10) (m := 0) (by decide))) rfl rfl (kc_nextG hx (by rw [ht]; decide) hC hX) (by omega) mi_X9_next lk_X9_57 rfl (Nat.le_of_ble_eq_true rfl) rfl rfl dX9_readSum_50 ?_
          intro v11 μ12 h13
          obtain ⟨rfl, My, rfl, hy, hky⟩ := h13
          refine JJ_r0 ?_
          refine JJ_aload_n dX9_readSum_53 rfl rfl ?_
          refine JJ_iload_n dX9_readSum_54 rfl rfl ?_
          refine JJ_callV (rest := []) (congrArg Prod.fst (hC.sh (t := 2) (k := 10) (m := 0) (by decide))) rfl rfl (hsub _ _ _ _ _ hy hC hX) (by omega) mi_X9_readTerm lk_X9_90 rfl (Nat.le_of_ble_eq_true rfl) rfl rfl dX9_readSum_55 ?_
          intro v14 μ15 h16
          obtain ⟨rfl, Mz, rfl, hpz, hkz⟩ := h16
          refine JJ_r0 ?_
          rcases hq2 : (gTerm b m one) (tok b m j).2.2.2 with q2 | ⟨c2, d2, j2⟩
          · skip
            rw [hq2] at hpz
            have hpz : RBAD x r b m q2 P Mz := hpz
            refine JJ_aload_n dX9_readSum_58 rfl rfl ?_
            refine JJ_iload_n dX9_readSum_59 rfl rfl ?_
            refine JJ_callV (rest := []) (congrArg Prod.fst (hC.sh (t := 2) (k := 10) (m := 0) (by decide))) rfl rfl (kc_emitB hpz hC hX) (by omega) mi_X9_emit lk_X9_78 rfl (Nat.le_of_ble_eq_true rfl) rfl rfl dX9_readSum_60 ?_
            intro v17 μ18 h19
            obtain ⟨rfl, Mw, rfl, hw, hkw⟩ := h19
            refine JJ_r0 ?_
            refine JJ_iinc (v := nI (k0 + 1)) (lv' := [(2, .int (nI (k0 + 1))), (3, .int ((-13))), (0, .ref (x + 2)), (1, .int op)]) dX9_readSum_63 rfl (nI_add (k0) 1) (by decide) rfl ?_
            refine JJ_goto (tgt := 7) dX9_readSum_66 (by decide) ?_
            refine JJ_iload_n dX9_readSum_7 rfl rfl ?_
            refine JJ_sipush (v := 160) dX9_readSum_8 rfl ?_
            refine JJ_icmp_ge (tgt := 69) dX9_readSum_11 (by decide) (fun c20 => ?_) (fun c20 => ?_)
            · skip
              refine JJ_vret dX9_readSum_69 rfl ?_
              exact ⟨rfl, Mw, rfl, hw, (fun a k z => (hkw a k z).trans ((hkz a k z).trans ((hky a k z).trans (hf a k z))))⟩
            · skip
              refine JJ_aload_n dX9_readSum_14 rfl rfl ?_
              refine JJ_geti (v := 9) (cis := [9]) (k := 5) fa_X9_29 (by decide) (congrArg Prod.fst (hC.sh (t := 2) (k := 10) (m := 0) (by decide))) rfl (hX.1 _ _ (by omega) (by omega) (by omega)) hw.2.2.1 dX9_readSum_15 ?_
              refine JJ_bipush (v := 43) dX9_readSum_18 rfl ?_
              refine JJ_icmp_eq (tgt := 32) dX9_readSum_20 (by decide) (fun c21 => absurd c21 (by decide)) (fun _ => ?_)
              refine JJ_aload_n dX9_readSum_23 rfl rfl ?_
              refine JJ_geti (v := 9) (cis := [9]) (k := 5) fa_X9_29 (by decide) (congrArg Prod.fst (hC.sh (t := 2) (k := 10) (m := 0) (by decide))) rfl (hX.1 _ _ (by omega) (by omega) (by omega)) hw.2.2.1 dX9_readSum_24 ?_
              refine JJ_bipush (v := 45) dX9_readSum_27 rfl ?_
              refine JJ_icmp_ne (tgt := 69) dX9_readSum_29 (by decide) (fun _ => ?_) (fun c22 => absurd c22 (by decide))
              refine JJ_vret dX9_readSum_69 rfl ?_
              exact ⟨rfl, Mw, rfl, hw, (fun a k z => (hkw a k z).trans ((hkz a k z).trans ((hky a k z).trans (hf a k z))))⟩
          · skip
            rw [hq2] at hpz
            have hpz : ROK x r b m (cs ++ c ++ c2) j2 P Mz := hpz
            obtain ⟨k1, k2, k3, k4⟩ := hgd _ _ _ _ e2 hq2
            have hl := hx.2.2.1
            refine JJ_aload_n dX9_readSum_58 rfl rfl ?_
            refine JJ_iload_n dX9_readSum_59 rfl rfl ?_
            refine JJ_callV (rest := []) (congrArg Prod.fst (hC.sh (t := 2) (k := 10) (m := 0) (by decide))) rfl rfl (kc_emitG hpz (by simp only [List.length_append] at hl ⊢; omega) hC hX) (by omega) mi_X9_emit lk_X9_78 rfl (Nat.le_of_ble_eq_true rfl) rfl rfl dX9_readSum_60 ?_
            intro v23 μ24 h25
            obtain ⟨rfl, Mw, rfl, hw, hkw⟩ := h25
            refine JJ_r0 ?_
            refine JJ_iinc (v := nI (k0 + 1)) (lv' := [(2, .int (nI (k0 + 1))), (3, .int ((-13))), (0, .ref (x + 2)), (1, .int op)]) dX9_readSum_63 rfl (nI_add (k0) 1) (by decide) rfl ?_
            refine JJ_goto (tgt := 7) dX9_readSum_66 (by decide) ?_
            refine JJ.pick [0, 2, 3] rfl ?_
            rw [show cs ++ c ++ c2 ++ [(-13)] = cs ++ (c ++ c2 ++ [(-13)]) by simp only [List.append_assoc]] at hw
            exact ih (k0 + 1) _ _ j2 Mw (by omega) hw (fun a k z => (hkw a k z).trans ((hkz a k z).trans ((hky a k z).trans (hf a k z))))
        · skip
          by_cases h45 : (tok b m j).1 = 45
          · skip
            have ht := h45
            obtain ⟨e1, e2⟩ := tk_e (b := b) (m := m) (i := j) (by rw [ht]; decide)
            have hlo : gLoop b m oAdd (gTerm b m one) (k + 1) c d0 j = pBind ((gTerm b m one) (tok b m j).2.2.2) (fun c2 d2 j2 => gLoop b m oAdd (gTerm b m one) k (c ++ c2 ++ [(-14)]) (fun nm => (((oAdd 45).getD (0, fun _ _ => 0)).2 (d0 nm) (d2 nm))) j2) := by show (match oAdd (tok b m j).1 with | none => (.inr (c, d0, j) : PR) | some o => pBind ((gTerm b m one) (tok b m j).2.2.2) (fun c2 d2 j2 => gLoop b m oAdd (gTerm b m one) k (c ++ c2 ++ [o.1]) (fun nm => o.2 (d0 nm) (d2 nm)) j2)) = _; rw [ht]; rfl
            rw [hlo]
            refine JJ_iload_n dX9_readSum_7 rfl rfl ?_
            refine JJ_sipush (v := 160) dX9_readSum_8 rfl ?_
            refine JJ_icmp_ge (tgt := 69) dX9_readSum_11 (by decide) (fun c26 => absurd c26 (nI_ge (b := 160) (by omega) (by omega))) (fun _ => ?_)
            refine JJ_aload_n dX9_readSum_14 rfl rfl ?_
            refine JJ_geti (v := (tok b m j).1) (cis := [9]) (k := 5) fa_X9_29 (by decide) (congrArg Prod.fst (hC.sh (t := 2) (k := 10) (m := 0) (by decide))) rfl (hX.1 _ _ (by omega) (by omega) (by omega)) hx.2.2.2.2.2.2.1 dX9_readSum_15 ?_
            refine JJ_bipush (v := 43) dX9_readSum_18 rfl ?_
            refine JJ_icmp_eq (tgt := 32) dX9_readSum_20 (by decide) (fun c27 => absurd c27 h43) (fun _ => ?_)
            refine JJ_aload_n dX9_readSum_23 rfl rfl ?_
            refine JJ_geti (v := (tok b m j).1) (cis := [9]) (k := 5) fa_X9_29 (by decide) (congrArg Prod.fst (hC.sh (t := 2) (k := 10) (m := 0) (by decide))) rfl (hX.1 _ _ (by omega) (by omega) (by omega)) hx.2.2.2.2.2.2.1 dX9_readSum_24 ?_
            refine JJ_bipush (v := 45) dX9_readSum_27 rfl ?_
            refine JJ_icmp_ne (tgt := 69) dX9_readSum_29 (by decide) (fun c28 => absurd ht c28) (fun _ => ?_)
            refine JJ_aload_n dX9_readSum_32 rfl rfl ?_
            refine JJ_geti (v := (tok b m j).1) (cis := [9]) (k := 5) fa_X9_29 (by decide) (congrArg Prod.fst (hC.sh (t := 2) (k := 10) (m := 0) (by decide))) rfl (hX.1 _ _ (by omega) (by omega) (by omega)) hx.2.2.2.2.2.2.1 dX9_readSum_33 ?_
            refine JJ_bipush (v := 43) dX9_readSum_36 rfl ?_
            refine JJ_icmp_ne (tgt := 46) dX9_readSum_38 (by decide) (fun _ => ?_) (fun c29 => absurd c29 h43)
            refine JJ_bipush (v := (-14)) dX9_readSum_46 rfl ?_
            refine JJ_istore_n (lv' := [(3, .int ((-14))), (2, .int (nI k0)), (0, .ref (x + 2)), (1, .int op)]) dX9_readSum_48 rfl (by decide) rfl ?_
            refine JJ_aload_n dX9_readSum_49 rfl rfl ?_
            refine JJ_callV (rest := []) (congrArg Prod.fst (hC.sh (t := 2) (k := 10) (m := 0) (by decide))) rfl rfl (kc_nextG hx (by rw [ht]; decide) hC hX) (by omega) mi_X9_next lk_X9_57 rfl (Nat.le_of_ble_eq_true rfl) rfl rfl dX9_readSum_50 ?_
            intro v30 μ31 h32
            obtain ⟨rfl, My, rfl, hy, hky⟩ := h32
            refine JJ_r0 ?_
            refine JJ_aload_n dX9_readSum_53 rfl rfl ?_
            refine JJ_iload_n dX9_readSum_54 rfl rfl ?_
            refine JJ_callV (rest := []) (congrArg Prod.fst (hC.sh (t := 2) (k := 10) (m := 0) (by decide))) rfl rfl (hsub _ _ _ _ _ hy hC hX) (by omega) mi_X9_readTerm lk_X9_90 rfl (Nat.le_of_ble_eq_true rfl) rfl rfl dX9_readSum_55 ?_
            intro v33 μ34 h35
            obtain ⟨rfl, Mz, rfl, hpz, hkz⟩ := h35
            refine JJ_r0 ?_
            rcases hq2 : (gTerm b m one) (tok b m j).2.2.2 with q2 | ⟨c2, d2, j2⟩
            · skip
              rw [hq2] at hpz
              have hpz : RBAD x r b m q2 P Mz := hpz
              refine JJ_aload_n dX9_readSum_58 rfl rfl ?_
              refine JJ_iload_n dX9_readSum_59 rfl rfl ?_
              refine JJ_callV (rest := []) (congrArg Prod.fst (hC.sh (t := 2) (k := 10) (m := 0) (by decide))) rfl rfl (kc_emitB hpz hC hX) (by omega) mi_X9_emit lk_X9_78 rfl (Nat.le_of_ble_eq_true rfl) rfl rfl dX9_readSum_60 ?_
              intro v36 μ37 h38
              obtain ⟨rfl, Mw, rfl, hw, hkw⟩ := h38
              refine JJ_r0 ?_
              refine JJ_iinc (v := nI (k0 + 1)) (lv' := [(2, .int (nI (k0 + 1))), (3, .int ((-14))), (0, .ref (x + 2)), (1, .int op)]) dX9_readSum_63 rfl (nI_add (k0) 1) (by decide) rfl ?_
              refine JJ_goto (tgt := 7) dX9_readSum_66 (by decide) ?_
              refine JJ_iload_n dX9_readSum_7 rfl rfl ?_
              refine JJ_sipush (v := 160) dX9_readSum_8 rfl ?_
              refine JJ_icmp_ge (tgt := 69) dX9_readSum_11 (by decide) (fun c39 => ?_) (fun c39 => ?_)
              · skip
                refine JJ_vret dX9_readSum_69 rfl ?_
                exact ⟨rfl, Mw, rfl, hw, (fun a k z => (hkw a k z).trans ((hkz a k z).trans ((hky a k z).trans (hf a k z))))⟩
              · skip
                refine JJ_aload_n dX9_readSum_14 rfl rfl ?_
                refine JJ_geti (v := 9) (cis := [9]) (k := 5) fa_X9_29 (by decide) (congrArg Prod.fst (hC.sh (t := 2) (k := 10) (m := 0) (by decide))) rfl (hX.1 _ _ (by omega) (by omega) (by omega)) hw.2.2.1 dX9_readSum_15 ?_
                refine JJ_bipush (v := 43) dX9_readSum_18 rfl ?_
                refine JJ_icmp_eq (tgt := 32) dX9_readSum_20 (by decide) (fun c40 => absurd c40 (by decide)) (fun _ => ?_)
                refine JJ_aload_n dX9_readSum_23 rfl rfl ?_
                refine JJ_geti (v := 9) (cis := [9]) (k := 5) fa_X9_29 (by decide) (congrArg Prod.fst (hC.sh (t := 2) (k := 10) (m := 0) (by decide))) rfl (hX.1 _ _ (by omega) (by omega) (by omega)) hw.2.2.1 dX9_readSum_24 ?_
                refine JJ_bipush (v := 45) dX9_readSum_27 rfl ?_
                refine JJ_icmp_ne (tgt := 69) dX9_readSum_29 (by decide) (fun _ => ?_) (fun c41 => absurd c41 (by decide))
                refine JJ_vret dX9_readSum_69 rfl ?_
                exact ⟨rfl, Mw, rfl, hw, (fun a k z => (hkw a k z).trans ((hkz a k z).trans ((hky a k z).trans (hf a k z))))⟩
            · skip
              rw [hq2] at hpz
              have hpz : ROK x r b m (cs ++ c ++ c2) j2 P Mz := hpz
              obtain ⟨k1, k2, k3, k4⟩ := hgd _ _ _ _ e2 hq2
              have hl := hx.2.2.1
              refine JJ_aload_n dX9_readSum_58 rfl rfl ?_
              refine JJ_iload_n dX9_readSum_59 rfl rfl ?_
              refine JJ_callV (rest := []) (congrArg Prod.fst (hC.sh (t := 2) (k := 10) (m := 0) (by decide))) rfl rfl (kc_emitG hpz (by simp only [List.length_append] at hl ⊢; omega) hC hX) (by omega) mi_X9_emit lk_X9_78 rfl (Nat.le_of_ble_eq_true rfl) rfl rfl dX9_readSum_60 ?_
              intro v42 μ43 h44
              obtain ⟨rfl, Mw, rfl, hw, hkw⟩ := h44
              refine JJ_r0 ?_
              refine JJ_iinc (v := nI (k0 + 1)) (lv' := [(2, .int (nI (k0 + 1))), (3, .int ((-14))), (0, .ref (x + 2)), (1, .int op)]) dX9_readSum_63 rfl (nI_add (k0) 1) (by decide) rfl ?_
              refine JJ_goto (tgt := 7) dX9_readSum_66 (by decide) ?_
              refine JJ.pick [0, 2, 3] rfl ?_
              rw [show cs ++ c ++ c2 ++ [(-14)] = cs ++ (c ++ c2 ++ [(-14)]) by simp only [List.append_assoc]] at hw
              exact ih (k0 + 1) _ _ j2 Mw (by omega) hw (fun a k z => (hkw a k z).trans ((hkz a k z).trans ((hky a k z).trans (hf a k z))))
          · skip
            have hlo : gLoop b m oAdd (gTerm b m one) (k + 1) c d0 j = .inr (c, d0, j) := by show (match oAdd (tok b m j).1 with | none => (.inr (c, d0, j) : PR) | some o => pBind ((gTerm b m one) (tok b m j).2.2.2) (fun c2 d2 j2 => gLoop b m oAdd (gTerm b m one) k (c ++ c2 ++ [o.1]) (fun nm => o.2 (d0 nm) (d2 nm)) j2)) = _; rw [show oAdd (tok b m j).1 = none from (if_neg h43).trans (if_neg h45)]
            rw [hlo]
            refine JJ_iload_n dX9_readSum_7 rfl rfl ?_
            refine JJ_sipush (v := 160) dX9_readSum_8 rfl ?_
            refine JJ_icmp_ge (tgt := 69) dX9_readSum_11 (by decide) (fun c45 => absurd c45 (nI_ge (b := 160) (by omega) (by omega))) (fun _ => ?_)
            refine JJ_aload_n dX9_readSum_14 rfl rfl ?_
            refine JJ_geti (v := (tok b m j).1) (cis := [9]) (k := 5) fa_X9_29 (by decide) (congrArg Prod.fst (hC.sh (t := 2) (k := 10) (m := 0) (by decide))) rfl (hX.1 _ _ (by omega) (by omega) (by omega)) hx.2.2.2.2.2.2.1 dX9_readSum_15 ?_
            refine JJ_bipush (v := 43) dX9_readSum_18 rfl ?_
            refine JJ_icmp_eq (tgt := 32) dX9_readSum_20 (by decide) (fun c46 => absurd c46 h43) (fun _ => ?_)
            refine JJ_aload_n dX9_readSum_23 rfl rfl ?_
            refine JJ_geti (v := (tok b m j).1) (cis := [9]) (k := 5) fa_X9_29 (by decide) (congrArg Prod.fst (hC.sh (t := 2) (k := 10) (m := 0) (by decide))) rfl (hX.1 _ _ (by omega) (by omega) (by omega)) hx.2.2.2.2.2.2.1 dX9_readSum_24 ?_
            refine JJ_bipush (v := 45) dX9_readSum_27 rfl ?_
            refine JJ_icmp_ne (tgt := 69) dX9_readSum_29 (by decide) (fun _ => ?_) (fun c47 => absurd c47 h45)
            refine JJ_vret dX9_readSum_69 rfl ?_
            exact ⟨rfl, Mx, rfl, hx, hf⟩
    refine JJ_iconst (v := 0) dX9_readSum_5 rfl ?_
    refine JJ_istore_n (lv' := [(2, .int 0), (0, .ref (x + 2)), (1, .int op)]) dX9_readSum_6 rfl (by decide) rfl ?_
    refine JJ.pick [0, 1, 2] rfl ?_
    exact key 160 0 c d0 j Mb (by omega) hpo hkb
end C33
