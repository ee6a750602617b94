section C32
variable {G : Gx} {sc : Nat → Nat → Prop} {n : Nat} {S : Nat → Nat × Nat} {M : Nat → Nat → Int32} {L : Nat → Nat → Int64} {P : Nat → Nat → Option Nat} {x : Nat} {A B : Abs} {b : Nat → Int32} {r m : Nat}

/-- a reader of parts reads g -/
def RS (G : Gx) (sc : Nat → Nat → Prop) (n : Nat) (S : Nat → Nat × Nat) (x r : Nat) (b : Nat → Int32) (m d : Nat) (y : MethodName) (cc : ByteArray) (nL : Nat) (op : Int32) (g : PF) : Prop := ∀ (cs : List Int32) (i : Nat) (M : Nat → Nat → Int32) (L : Nat → Nat → Int64) (P : Nat → Nat → Option Nat), ROK x r b m cs i P M → CWT x S P → HSC x sc →
  KK G sc y cc nL none d 0 0 [.ref (x + 2), .int op] (n, S, M, L, P) (fun v μ => v = none ∧ ∃ M', μ = (n, S, M', L, P) ∧ RPO x r b m cs (g i) P M' ∧ ∀ a k, ¬ RCH x r a k → M' a k = M a k)
set_option maxHeartbeats 4000000 in
set_option maxRecDepth 100000 in
theorem kc_readTerm {d : Nat} {op : Int32} {one : PF} (hsub : RS G sc n S x r b m d yX9_readOne cX9_readOne 2 op one) (hgd : GD m one) (hdd : 8 < d) : RS G sc n S x r b m (d + 1) yX9_readTerm cX9_readTerm 3 op (gTerm b m one) := by
  intro cs i M L P h hC hX
  have hi := h.2.1
  refine KK_of2 [(0, .ref (x + 2)), (1, .int op)] (by decide +kernel) (Nat.le_of_ble_eq_true rfl) rfl ?_
  refine JJ_aload_n dX9_readTerm_0 rfl rfl ?_
  refine JJ_iload_n dX9_readTerm_1 rfl rfl ?_
  refine JJ_callV (rest := []) (congrArg Prod.fst (hC.sh (t := 2) (k := 10) (m := 0) (by decide))) rfl rfl (hsub _ _ _ _ _ h hC hX) (by omega) mi_X9_readOne lk_X9_93 rfl (Nat.le_of_ble_eq_true rfl) rfl rfl dX9_readTerm_2 ?_
  intro v1 μ2 h3
  obtain ⟨rfl, Mb, rfl, hpo, hkb⟩ := h3
  refine JJ_r0 ?_
  rcases hq : one i with q | ⟨c, d0, j⟩
  · skip
    rw [hq] at hpo
    have hpo : RBAD x r b m q P Mb := hpo
    rw [show gTerm b m one i = .inl q by show pBind (one i) _ = _; rw [hq]; rfl]
    refine JJ_iconst (v := 0) dX9_readTerm_5 rfl ?_
    refine JJ_istore_n (lv' := [(2, .int 0), (0, .ref (x + 2)), (1, .int op)]) dX9_readTerm_6 rfl (by decide) rfl ?_
    refine JJ_iload_n dX9_readTerm_7 rfl rfl ?_
    refine JJ_sipush (v := 160) dX9_readTerm_8 rfl ?_
    refine JJ_icmp_ge (tgt := 44) dX9_readTerm_11 (by decide) (fun c4 => absurd c4 (by decide)) (fun _ => ?_)
    refine JJ_aload_n dX9_readTerm_14 rfl rfl ?_
    refine JJ_geti (v := 9) (cis := [9]) (k := 5) fa_X9_29 (by decide) (congrArg Prod.fst (hC.sh (t := 2) (k := 10) (m := 0) (by decide))) rfl (hX.1 _ _ (by omega) (by omega) (by omega)) hpo.2.2.1 dX9_readTerm_15 ?_
    refine JJ_bipush (v := 42) dX9_readTerm_18 rfl ?_
    refine JJ_icmp_ne (tgt := 44) dX9_readTerm_20 (by decide) (fun _ => ?_) (fun c5 => absurd c5 (by decide))
    refine JJ_vret dX9_readTerm_44 rfl ?_
    exact ⟨rfl, Mb, rfl, hpo, hkb⟩
  · skip
    rw [hq] at hpo
    have hpo : ROK x r b m (cs ++ c) j P Mb := hpo
    rw [show gTerm b m one i = gLoop b m oMul one 160 c d0 j by show pBind (one i) _ = _; rw [hq]; rfl]
    have key : ∀ (k k0 : Nat) (c : List Int32) (d0 : Nms → Int32) (j : Nat) (Mx : Nat → Nat → Int32), k0 + k = 160 → ROK x r b m (cs ++ c) j P Mx → (∀ a k, ¬ RCH x r a k → Mx a k = M a k) → JJ G sc yX9_readTerm cX9_readTerm 3 none (d + 1) 0 0 (fun v μ => v = none ∧ ∃ M', μ = (n, S, M', L, P) ∧ RPO x r b m cs (gLoop b m oMul one k c d0 j) P M' ∧ ∀ a k, ¬ RCH x r a k → M' a k = M a k) 7 [(2, .int (nI k0)), (0, .ref (x + 2)), (1, .int op)] [] (n, S, Mx, L, P) := by
      intro k
      induction k with
      | zero =>
        intro k0 c d0 j Mx hk0 hx hf
        refine JJ_iload_n dX9_readTerm_7 rfl rfl ?_
        refine JJ_sipush (v := 160) dX9_readTerm_8 rfl ?_
        refine JJ_icmp_ge (tgt := 44) dX9_readTerm_11 (by decide) (fun _ => ?_) (fun c6 => absurd (nI_le (a := 160) (by omega) (by omega)) c6)
        refine JJ_vret dX9_readTerm_44 rfl ?_
        exact ⟨rfl, Mx, rfl, hx, hf⟩
      | succ k ih =>
        intro k0 c d0 j Mx hk0 hx hf
        by_cases ht : (tok b m j).1 = 42
        · skip
          obtain ⟨e1, e2⟩ := tk_e (b := b) (m := m) (i := j) (by rw [ht]; decide)
          have hlo : gLoop b m oMul one (k + 1) c d0 j = pBind (one (tok b m j).2.2.2) (fun c2 d2 j2 => gLoop b m oMul one k (c ++ c2 ++ [(-15)]) (fun nm => (((oMul 42).getD (0, fun _ _ => 0)).2 (d0 nm) (d2 nm))) j2) := by show (match oMul (tok b m j).1 with | none => (.inr (c, d0, j) : PR) | some o => pBind (one (tok b m j).2.2.2) (fun c2 d2 j2 => gLoop b m oMul one k (c ++ c2 ++ [o.1]) (fun nm => o.2 (d0 nm) (d2 nm)) j2)) = _; rw [ht]; rfl
          rw [hlo]
          refine JJ_iload_n dX9_readTerm_7 rfl rfl ?_
          refine JJ_sipush (v := 160) dX9_readTerm_8 rfl ?_
          refine JJ_icmp_ge (tgt := 44) dX9_readTerm_11 (by decide) (fun c7 => absurd c7 (nI_ge (b := 160) (by omega) (by omega))) (fun _ => ?_)
          refine JJ_aload_n dX9_readTerm_14 rfl rfl ?_
          refine JJ_geti (v := (tok b m j).1) (cis := [9]) (k := 5) fa_X9_29 (by decide) (congrArg Prod.fst (hC.sh (t := 2) (k := 10) (m := 0) (by decide))) rfl (hX.1 _ _ (by omega) (by omega) (by omega)) hx.2.2.2.2.2.2.1 dX9_readTerm_15 ?_
          refine JJ_bipush (v := 42) dX9_readTerm_18 rfl ?_
          refine JJ_icmp_ne (tgt := 44) dX9_readTerm_20 (by decide) (fun c8 => absurd ht c8) (fun _ => ?_)
          refine JJ_aload_n dX9_readTerm_23 rfl rfl ?_
          refine JJ_callV (rest := []) (congrArg Prod.fst (hC.sh (t := 2) (k := 10) (m := 0) (by decide))) rfl rfl (kc_nextG hx (by rw [ht]; decide) hC hX) (by omega) mi_X9_next lk_X9_57 rfl (Nat.le_of_ble_eq_true rfl) rfl rfl dX9_readTerm_24 ?_
          intro v9 μ10 h11
          obtain ⟨rfl, My, rfl, hy, hky⟩ := h11
          refine JJ_r0 ?_
          refine JJ_aload_n dX9_readTerm_27 rfl rfl ?_
          refine JJ_iload_n dX9_readTerm_28 rfl rfl ?_
          refine JJ_callV (rest := []) (congrArg Prod.fst (hC.sh (t := 2) (k := 10) (m := 0) (by decide))) rfl rfl (hsub _ _ _ _ _ hy hC hX) (by omega) mi_X9_readOne lk_X9_93 rfl (Nat.le_of_ble_eq_true rfl) rfl rfl dX9_readTerm_29 ?_
          intro v12 μ13 h14
          obtain ⟨rfl, Mz, rfl, hpz, hkz⟩ := h14
          refine JJ_r0 ?_
          rcases hq2 : one (tok b m j).2.2.2 with q2 | ⟨c2, d2, j2⟩
          · skip
            rw [hq2] at hpz
            have hpz : RBAD x r b m q2 P Mz := hpz
            refine JJ_aload_n dX9_readTerm_32 rfl rfl ?_
            refine JJ_bipush (v := (-15)) dX9_readTerm_33 rfl ?_
            refine JJ_callV (rest := []) (congrArg Prod.fst (hC.sh (t := 2) (k := 10) (m := 0) (by decide))) rfl rfl (kc_emitB hpz hC hX) (by omega) mi_X9_emit lk_X9_78 rfl (Nat.le_of_ble_eq_true rfl) rfl rfl dX9_readTerm_35 ?_
            intro v15 μ16 h17
            obtain ⟨rfl, Mw, rfl, hw, hkw⟩ := h17
            refine JJ_r0 ?_
            refine JJ_iinc (v := nI (k0 + 1)) (lv' := [(2, .int (nI (k0 + 1))), (0, .ref (x + 2)), (1, .int op)]) dX9_readTerm_38 rfl (nI_add (k0) 1) (by decide) rfl ?_
            refine JJ_goto (tgt := 7) dX9_readTerm_41 (by decide) ?_
            refine JJ_iload_n dX9_readTerm_7 rfl rfl ?_
            refine JJ_sipush (v := 160) dX9_readTerm_8 rfl ?_
            refine JJ_icmp_ge (tgt := 44) dX9_readTerm_11 (by decide) (fun c18 => ?_) (fun c18 => ?_)
            · skip
              refine JJ_vret dX9_readTerm_44 rfl ?_
              exact ⟨rfl, Mw, rfl, hw, (fun a k z => (hkw a k z).trans ((hkz a k z).trans ((hky a k z).trans (hf a k z))))⟩
            · skip
              refine JJ_aload_n dX9_readTerm_14 rfl rfl ?_
              refine JJ_geti (v := 9) (cis := [9]) (k := 5) fa_X9_29 (by decide) (congrArg Prod.fst (hC.sh (t := 2) (k := 10) (m := 0) (by decide))) rfl (hX.1 _ _ (by omega) (by omega) (by omega)) hw.2.2.1 dX9_readTerm_15 ?_
              refine JJ_bipush (v := 42) dX9_readTerm_18 rfl ?_
              refine JJ_icmp_ne (tgt := 44) dX9_readTerm_20 (by decide) (fun _ => ?_) (fun c19 => absurd c19 (by decide))
              refine JJ_vret dX9_readTerm_44 rfl ?_
              exact ⟨rfl, Mw, rfl, hw, (fun a k z => (hkw a k z).trans ((hkz a k z).trans ((hky a k z).trans (hf a k z))))⟩
          · skip
            rw [hq2] at hpz
            have hpz : ROK x r b m (cs ++ c ++ c2) j2 P Mz := hpz
            obtain ⟨k1, k2, k3, k4⟩ := hgd _ _ _ _ e2 hq2
            have hl := hx.2.2.1
            refine JJ_aload_n dX9_readTerm_32 rfl rfl ?_
            refine JJ_bipush (v := (-15)) dX9_readTerm_33 rfl ?_
            refine JJ_callV (rest := []) (congrArg Prod.fst (hC.sh (t := 2) (k := 10) (m := 0) (by decide))) rfl rfl (kc_emitG hpz (by simp only [List.length_append] at hl ⊢; omega) hC hX) (by omega) mi_X9_emit lk_X9_78 rfl (Nat.le_of_ble_eq_true rfl) rfl rfl dX9_readTerm_35 ?_
            intro v20 μ21 h22
            obtain ⟨rfl, Mw, rfl, hw, hkw⟩ := h22
            refine JJ_r0 ?_
            refine JJ_iinc (v := nI (k0 + 1)) (lv' := [(2, .int (nI (k0 + 1))), (0, .ref (x + 2)), (1, .int op)]) dX9_readTerm_38 rfl (nI_add (k0) 1) (by decide) rfl ?_
            refine JJ_goto (tgt := 7) dX9_readTerm_41 (by decide) ?_
            refine JJ.pick [0, 1, 2] rfl ?_
            rw [show cs ++ c ++ c2 ++ [(-15)] = cs ++ (c ++ c2 ++ [(-15)]) by simp only [List.append_assoc]] at hw
            exact ih (k0 + 1) _ _ j2 Mw (by omega) hw (fun a k z => (hkw a k z).trans ((hkz a k z).trans ((hky a k z).trans (hf a k z))))
        · skip
          have hlo : gLoop b m oMul one (k + 1) c d0 j = .inr (c, d0, j) := by show (match oMul (tok b m j).1 with | none => (.inr (c, d0, j) : PR) | some o => pBind (one (tok b m j).2.2.2) (fun c2 d2 j2 => gLoop b m oMul one k (c ++ c2 ++ [o.1]) (fun nm => o.2 (d0 nm) (d2 nm)) j2)) = _; rw [show oMul (tok b m j).1 = none from if_neg ht]
          rw [hlo]
          refine JJ_iload_n dX9_readTerm_7 rfl rfl ?_
          refine JJ_sipush (v := 160) dX9_readTerm_8 rfl ?_
          refine JJ_icmp_ge (tgt := 44) dX9_readTerm_11 (by decide) (fun c23 => absurd c23 (nI_ge (b := 160) (by omega) (by omega))) (fun _ => ?_)
          refine JJ_aload_n dX9_readTerm_14 rfl rfl ?_
          refine JJ_geti (v := (tok b m j).1) (cis := [9]) (k := 5) fa_X9_29 (by decide) (congrArg Prod.fst (hC.sh (t := 2) (k := 10) (m := 0) (by decide))) rfl (hX.1 _ _ (by omega) (by omega) (by omega)) hx.2.2.2.2.2.2.1 dX9_readTerm_15 ?_
          refine JJ_bipush (v := 42) dX9_readTerm_18 rfl ?_
          refine JJ_icmp_ne (tgt := 44) dX9_readTerm_20 (by decide) (fun _ => ?_) (fun c24 => absurd c24 ht)
          refine JJ_vret dX9_readTerm_44 rfl ?_
          exact ⟨rfl, Mx, rfl, hx, hf⟩
    refine JJ_iconst (v := 0) dX9_readTerm_5 rfl ?_
    refine JJ_istore_n (lv' := [(2, .int 0), (0, .ref (x + 2)), (1, .int op)]) dX9_readTerm_6 rfl (by decide) rfl ?_
    refine JJ.pick [0, 1, 2] rfl ?_
    exact key 160 0 c d0 j Mb (by omega) hpo hkb
set_option maxHeartbeats 4000000 in
set_option maxRecDepth 100000 in
theorem kc_readBoth {d : Nat} {op : Int32} {one : PF} (hsub : RS G sc n S x r b m d yX9_readNot cX9_readNot 3 op one) (hgd : GD m one) (hdd : 8 < d) : RS G sc n S x r b m (d + 1) yX9_readBoth cX9_readBoth 3 op (gBoth b m one) := by
  intro cs i M L P h hC hX
  have hi := h.2.1
  refine KK_of2 [(0, .ref (x + 2)), (1, .int op)] (by decide +kernel) (Nat.le_of_ble_eq_true rfl) rfl ?_
  refine JJ_aload_n dX9_readBoth_0 rfl rfl ?_
  refine JJ_iload_n dX9_readBoth_1 rfl rfl ?_
  refine JJ_callV (rest := []) (congrArg Prod.fst (hC.sh (t := 2) (k := 10) (m := 0) (by decide))) rfl rfl (hsub _ _ _ _ _ h hC hX) (by omega) mi_X9_readNot lk_X9_81 rfl (Nat.le_of_ble_eq_true rfl) rfl rfl dX9_readBoth_2 ?_
  intro v1 μ2 h3
  obtain ⟨rfl, Mb, rfl, hpo, hkb⟩ := h3
  refine JJ_r0 ?_
  rcases hq : one i with q | ⟨c, d0, j⟩
  · skip
    rw [hq] at hpo
    have hpo : RBAD x r b m q P Mb := hpo
    rw [show gBoth b m one i = .inl q by show pBind (one i) _ = _; rw [hq]; rfl]
    refine JJ_iconst (v := 0) dX9_readBoth_5 rfl ?_
    refine JJ_istore_n (lv' := [(2, .int 0), (0, .ref (x + 2)), (1, .int op)]) dX9_readBoth_6 rfl (by decide) rfl ?_
    refine JJ_iload_n dX9_readBoth_7 rfl rfl ?_
    refine JJ_sipush (v := 160) dX9_readBoth_8 rfl ?_
    refine JJ_icmp_ge (tgt := 44) dX9_readBoth_11 (by decide) (fun c4 => absurd c4 (by decide)) (fun _ => ?_)
    refine JJ_aload_n dX9_readBoth_14 rfl rfl ?_
    refine JJ_geti (v := 9) (cis := [9]) (k := 5) fa_X9_29 (by decide) (congrArg Prod.fst (hC.sh (t := 2) (k := 10) (m := 0) (by decide))) rfl (hX.1 _ _ (by omega) (by omega) (by omega)) hpo.2.2.1 dX9_readBoth_15 ?_
    refine JJ_bipush (v := 7) dX9_readBoth_18 rfl ?_
    refine JJ_icmp_ne (tgt := 44) dX9_readBoth_20 (by decide) (fun _ => ?_) (fun c5 => absurd c5 (by decide))
    refine JJ_vret dX9_readBoth_44 rfl ?_
    exact ⟨rfl, Mb, rfl, hpo, hkb⟩
  · skip
    rw [hq] at hpo
    have hpo : ROK x r b m (cs ++ c) j P Mb := hpo
    rw [show gBoth b m one i = gLoop b m oAnd one 160 c d0 j by show pBind (one i) _ = _; rw [hq]; rfl]
    have key : ∀ (k k0 : Nat) (c : List Int32) (d0 : Nms → Int32) (j : Nat) (Mx : Nat → Nat → Int32), k0 + k = 160 → ROK x r b m (cs ++ c) j P Mx → (∀ a k, ¬ RCH x r a k → Mx a k = M a k) → JJ G sc yX9_readBoth cX9_readBoth 3 none (d + 1) 0 0 (fun v μ => v = none ∧ ∃ M', μ = (n, S, M', L, P) ∧ RPO x r b m cs (gLoop b m oAnd one k c d0 j) P M' ∧ ∀ a k, ¬ RCH x r a k → M' a k = M a k) 7 [(2, .int (nI k0)), (0, .ref (x + 2)), (1, .int op)] [] (n, S, Mx, L, P) := by
      intro k
      induction k with
      | zero =>
        intro k0 c d0 j Mx hk0 hx hf
        refine JJ_iload_n dX9_readBoth_7 rfl rfl ?_
        refine JJ_sipush (v := 160) dX9_readBoth_8 rfl ?_
        refine JJ_icmp_ge (tgt := 44) dX9_readBoth_11 (by decide) (fun _ => ?_) (fun c6 => absurd (nI_le (a := 160) (by omega) (by omega)) c6)
        refine JJ_vret dX9_readBoth_44 rfl ?_
        exact ⟨rfl, Mx, rfl, hx, hf⟩
      | succ k ih =>
        intro k0 c d0 j Mx hk0 hx hf
        by_cases ht : (tok b m j).1 = 7
        · skip
          obtain ⟨e1, e2⟩ := tk_e (b := b) (m := m) (i := j) (by rw [ht]; decide)
          have hlo : gLoop b m oAnd one (k + 1) c d0 j = pBind (one (tok b m j).2.2.2) (fun c2 d2 j2 => gLoop b m oAnd one k (c ++ c2 ++ [(-10)]) (fun nm => (((oAnd 7).getD (0, fun _ _ => 0)).2 (d0 nm) (d2 nm))) j2) := by show (match oAnd (tok b m j).1 with | none => (.inr (c, d0, j) : PR) | some o => pBind (one (tok b m j).2.2.2) (fun c2 d2 j2 => gLoop b m oAnd one k (c ++ c2 ++ [o.1]) (fun nm => o.2 (d0 nm) (d2 nm)) j2)) = _; rw [ht]; rfl
          rw [hlo]
          refine JJ_iload_n dX9_readBoth_7 rfl rfl ?_
          refine JJ_sipush (v := 160) dX9_readBoth_8 rfl ?_
          refine JJ_icmp_ge (tgt := 44) dX9_readBoth_11 (by decide) (fun c7 => absurd c7 (nI_ge (b := 160) (by omega) (by omega))) (fun _ => ?_)
          refine JJ_aload_n dX9_readBoth_14 rfl rfl ?_
          refine JJ_geti (v := (tok b m j).1) (cis := [9]) (k := 5) fa_X9_29 (by decide) (congrArg Prod.fst (hC.sh (t := 2) (k := 10) (m := 0) (by decide))) rfl (hX.1 _ _ (by omega) (by omega) (by omega)) hx.2.2.2.2.2.2.1 dX9_readBoth_15 ?_
          refine JJ_bipush (v := 7) dX9_readBoth_18 rfl ?_
          refine JJ_icmp_ne (tgt := 44) dX9_readBoth_20 (by decide) (fun c8 => absurd ht c8) (fun _ => ?_)
          refine JJ_aload_n dX9_readBoth_23 rfl rfl ?_
          refine JJ_callV (rest := []) (congrArg Prod.fst (hC.sh (t := 2) (k := 10) (m := 0) (by decide))) rfl rfl (kc_nextG hx (by rw [ht]; decide) hC hX) (by omega) mi_X9_next lk_X9_57 rfl (Nat.le_of_ble_eq_true rfl) rfl rfl dX9_readBoth_24 ?_
          intro v9 μ10 h11
          obtain ⟨rfl, My, rfl, hy, hky⟩ := h11
          refine JJ_r0 ?_
          refine JJ_aload_n dX9_readBoth_27 rfl rfl ?_
          refine JJ_iload_n dX9_readBoth_28 rfl rfl ?_
          refine JJ_callV (rest := []) (congrArg Prod.fst (hC.sh (t := 2) (k := 10) (m := 0) (by decide))) rfl rfl (hsub _ _ _ _ _ hy hC hX) (by omega) mi_X9_readNot lk_X9_81 rfl (Nat.le_of_ble_eq_true rfl) rfl rfl dX9_readBoth_29 ?_
          intro v12 μ13 h14
          obtain ⟨rfl, Mz, rfl, hpz, hkz⟩ := h14
          refine JJ_r0 ?_
          rcases hq2 : one (tok b m j).2.2.2 with q2 | ⟨c2, d2, j2⟩
          · skip
            rw [hq2] at hpz
            have hpz : RBAD x r b m q2 P Mz := hpz
            refine JJ_aload_n dX9_readBoth_32 rfl rfl ?_
            refine JJ_bipush (v := (-10)) dX9_readBoth_33 rfl ?_
            refine JJ_callV (rest := []) (congrArg Prod.fst (hC.sh (t := 2) (k := 10) (m := 0) (by decide))) rfl rfl (kc_emitB hpz hC hX) (by omega) mi_X9_emit lk_X9_78 rfl (Nat.le_of_ble_eq_true rfl) rfl rfl dX9_readBoth_35 ?_
            intro v15 μ16 h17
            obtain ⟨rfl, Mw, rfl, hw, hkw⟩ := h17
            refine JJ_r0 ?_
            refine JJ_iinc (v := nI (k0 + 1)) (lv' := [(2, .int (nI (k0 + 1))), (0, .ref (x + 2)), (1, .int op)]) dX9_readBoth_38 rfl (nI_add (k0) 1) (by decide) rfl ?_
            refine JJ_goto (tgt := 7) dX9_readBoth_41 (by decide) ?_
            refine JJ_iload_n dX9_readBoth_7 rfl rfl ?_
            refine JJ_sipush (v := 160) dX9_readBoth_8 rfl ?_
            refine JJ_icmp_ge (tgt := 44) dX9_readBoth_11 (by decide) (fun c18 => ?_) (fun c18 => ?_)
            · skip
              refine JJ_vret dX9_readBoth_44 rfl ?_
              exact ⟨rfl, Mw, rfl, hw, (fun a k z => (hkw a k z).trans ((hkz a k z).trans ((hky a k z).trans (hf a k z))))⟩
            · skip
              refine JJ_aload_n dX9_readBoth_14 rfl rfl ?_
              refine JJ_geti (v := 9) (cis := [9]) (k := 5) fa_X9_29 (by decide) (congrArg Prod.fst (hC.sh (t := 2) (k := 10) (m := 0) (by decide))) rfl (hX.1 _ _ (by omega) (by omega) (by omega)) hw.2.2.1 dX9_readBoth_15 ?_
              refine JJ_bipush (v := 7) dX9_readBoth_18 rfl ?_
              refine JJ_icmp_ne (tgt := 44) dX9_readBoth_20 (by decide) (fun _ => ?_) (fun c19 => absurd c19 (by decide))
              refine JJ_vret dX9_readBoth_44 rfl ?_
              exact ⟨rfl, Mw, rfl, hw, (fun a k z => (hkw a k z).trans ((hkz a k z).trans ((hky a k z).trans (hf a k z))))⟩
          · skip
            rw [hq2] at hpz
            have hpz : ROK x r b m (cs ++ c ++ c2) j2 P Mz := hpz
            obtain ⟨k1, k2, k3, k4⟩ := hgd _ _ _ _ e2 hq2
            have hl := hx.2.2.1
            refine JJ_aload_n dX9_readBoth_32 rfl rfl ?_
            refine JJ_bipush (v := (-10)) dX9_readBoth_33 rfl ?_
            refine JJ_callV (rest := []) (congrArg Prod.fst (hC.sh (t := 2) (k := 10) (m := 0) (by decide))) rfl rfl (kc_emitG hpz (by simp only [List.length_append] at hl ⊢; omega) hC hX) (by omega) mi_X9_emit lk_X9_78 rfl (Nat.le_of_ble_eq_true rfl) rfl rfl dX9_readBoth_35 ?_
            intro v20 μ21 h22
            obtain ⟨rfl, Mw, rfl, hw, hkw⟩ := h22
            refine JJ_r0 ?_
            refine JJ_iinc (v := nI (k0 + 1)) (lv' := [(2, .int (nI (k0 + 1))), (0, .ref (x + 2)), (1, .int op)]) dX9_readBoth_38 rfl (nI_add (k0) 1) (by decide) rfl ?_
            refine JJ_goto (tgt := 7) dX9_readBoth_41 (by decide) ?_
            refine JJ.pick [0, 1, 2] rfl ?_
            rw [show cs ++ c ++ c2 ++ [(-10)] = cs ++ (c ++ c2 ++ [(-10)]) by simp only [List.append_assoc]] at hw
            exact ih (k0 + 1) _ _ j2 Mw (by omega) hw (fun a k z => (hkw a k z).trans ((hkz a k z).trans ((hky a k z).trans (hf a k z))))
        · skip
          have hlo : gLoop b m oAnd one (k + 1) c d0 j = .inr (c, d0, j) := by show (match oAnd (tok b m j).1 with | none => (.inr (c, d0, j) : PR) | some o => pBind (one (tok b m j).2.2.2) (fun c2 d2 j2 => gLoop b m oAnd one k (c ++ c2 ++ [o.1]) (fun nm => o.2 (d0 nm) (d2 nm)) j2)) = _; rw [show oAnd (tok b m j).1 = none from if_neg ht]
          rw [hlo]
          refine JJ_iload_n dX9_readBoth_7 rfl rfl ?_
          refine JJ_sipush (v := 160) dX9_readBoth_8 rfl ?_
          refine JJ_icmp_ge (tgt := 44) dX9_readBoth_11 (by decide) (fun c23 => absurd c23 (nI_ge (b := 160) (by omega) (by omega))) (fun _ => ?_)
          refine JJ_aload_n dX9_readBoth_14 rfl rfl ?_
          refine JJ_geti (v := (tok b m j).1) (cis := [9]) (k := 5) fa_X9_29 (by decide) (congrArg Prod.fst (hC.sh (t := 2) (k := 10) (m := 0) (by decide))) rfl (hX.1 _ _ (by omega) (by omega) (by omega)) hx.2.2.2.2.2.2.1 dX9_readBoth_15 ?_
          refine JJ_bipush (v := 7) dX9_readBoth_18 rfl ?_
          refine JJ_icmp_ne (tgt := 44) dX9_readBoth_20 (by decide) (fun _ => ?_) (fun c24 => absurd c24 ht)
          refine JJ_vret dX9_readBoth_44 rfl ?_
          exact ⟨rfl, Mx, rfl, hx, hf⟩
    refine JJ_iconst (v := 0) dX9_readBoth_5 rfl ?_
    refine JJ_istore_n (lv' := [(2, .int 0), (0, .ref (x + 2)), (1, .int op)]) dX9_readBoth_6 rfl (by decide) rfl ?_
    refine JJ.pick [0, 1, 2] rfl ?_
    exact key 160 0 c d0 j Mb (by omega) hpo hkb
set_option maxHeartbeats 4000000 in
set_option maxRecDepth 100000 in
theorem kc_readEither {d : Nat} {op : Int32} {one : PF} (hsub : RS G sc n S x r b m d yX9_readBoth cX9_readBoth 3 op (gBoth b m one)) (hgd : GD m (gBoth b m one)) (hdd : 8 < d) : RS G sc n S x r b m (d + 1) yX9_readEither cX9_readEither 3 op (gEither b m one) := by
  intro cs i M L P h hC hX
  have hi := h.2.1
  refine KK_of2 [(0, .ref (x + 2)), (1, .int op)] (by decide +kernel) (Nat.le_of_ble_eq_true rfl) rfl ?_
  refine JJ_aload_n dX9_readEither_0 rfl rfl ?_
  refine JJ_iload_n dX9_readEither_1 rfl rfl ?_
  refine JJ_callV (rest := []) (congrArg Prod.fst (hC.sh (t := 2) (k := 10) (m := 0) (by decide))) rfl rfl (hsub _ _ _ _ _ h hC hX) (by omega) mi_X9_readBoth lk_X9_75 rfl (Nat.le_of_ble_eq_true rfl) rfl rfl dX9_readEither_2 ?_
  intro v1 μ2 h3
  obtain ⟨rfl, Mb, rfl, hpo, hkb⟩ := h3
  refine JJ_r0 ?_
  rcases hq : (gBoth b m one) i with q | ⟨c, d0, j⟩
  · skip
    rw [hq] at hpo
    have hpo : RBAD x r b m q P Mb := hpo
    rw [show gEither b m one i = .inl q by show pBind ((gBoth b m one) i) _ = _; rw [hq]; rfl]
    refine JJ_iconst (v := 0) dX9_readEither_5 rfl ?_
    refine JJ_istore_n (lv' := [(2, .int 0), (0, .ref (x + 2)), (1, .int op)]) dX9_readEither_6 rfl (by decide) rfl ?_
    refine JJ_iload_n dX9_readEither_7 rfl rfl ?_
    refine JJ_sipush (v := 160) dX9_readEither_8 rfl ?_
    refine JJ_icmp_ge (tgt := 44) dX9_readEither_11 (by decide) (fun c4 => absurd c4 (by decide)) (fun _ => ?_)
    refine JJ_aload_n dX9_readEither_14 rfl rfl ?_
    refine JJ_geti (v := 9) (cis := [9]) (k := 5) fa_X9_29 (by decide) (congrArg Prod.fst (hC.sh (t := 2) (k := 10) (m := 0) (by decide))) rfl (hX.1 _ _ (by omega) (by omega) (by omega)) hpo.2.2.1 dX9_readEither_15 ?_
    refine JJ_bipush (v := 6) dX9_readEither_18 rfl ?_
    refine JJ_icmp_ne (tgt := 44) dX9_readEither_20 (by decide) (fun _ => ?_) (fun c5 => absurd c5 (by decide))
    refine JJ_vret dX9_readEither_44 rfl ?_
    exact ⟨rfl, Mb, rfl, hpo, hkb⟩
  · skip
    rw [hq] at hpo
    have hpo : ROK x r b m (cs ++ c) j P Mb := hpo
    rw [show gEither b m one i = gLoop b m oOr (gBoth b m one) 160 c d0 j by show pBind ((gBoth b m one) i) _ = _; rw [hq]; rfl]
    have key : ∀ (k k0 : Nat) (c : List Int32) (d0 : Nms → Int32) (j : Nat) (Mx : Nat → Nat → Int32), k0 + k = 160 → ROK x r b m (cs ++ c) j P Mx → (∀ a k, ¬ RCH x r a k → Mx a k = M a k) → JJ G sc yX9_readEither cX9_readEither 3 none (d + 1) 0 0 (fun v μ => v = none ∧ ∃ M', μ = (n, S, M', L, P) ∧ RPO x r b m cs (gLoop b m oOr (gBoth b m one) k c d0 j) P M' ∧ ∀ a k, ¬ RCH x r a k → M' a k = M a k) 7 [(2, .int (nI k0)), (0, .ref (x + 2)), (1, .int op)] [] (n, S, Mx, L, P) := by
      intro k
      induction k with
      | zero =>
        intro k0 c d0 j Mx hk0 hx hf
        refine JJ_iload_n dX9_readEither_7 rfl rfl ?_
        refine JJ_sipush (v := 160) dX9_readEither_8 rfl ?_
        refine JJ_icmp_ge (tgt := 44) dX9_readEither_11 (by decide) (fun _ => ?_) (fun c6 => absurd (nI_le (a := 160) (by omega) (by omega)) c6)
        refine JJ_vret dX9_readEither_44 rfl ?_
        exact ⟨rfl, Mx, rfl, hx, hf⟩
      | succ k ih =>
        intro k0 c d0 j Mx hk0 hx hf
        by_cases ht : (tok b m j).1 = 6
        · skip
          obtain ⟨e1, e2⟩ := tk_e (b := b) (m := m) (i := j) (by rw [ht]; decide)
          have hlo : gLoop b m oOr (gBoth b m one) (k + 1) c d0 j = pBind ((gBoth b m one) (tok b m j).2.2.2) (fun c2 d2 j2 => gLoop b m oOr (gBoth b m one) k (c ++ c2 ++ [(-9)]) (fun nm => (((oOr 6).getD (0, fun _ _ => 0)).2 (d0 nm) (d2 nm))) j2) := by show (match oOr (tok b m j).1 with | none => (.inr (c, d0, j) : PR) | some o => pBind ((gBoth b m one) (tok b m j).2.2.2) (fun c2 d2 j2 => gLoop b m oOr (gBoth b m one) k (c ++ c2 ++ [o.1]) (fun nm => o.2 (d0 nm) (d2 nm)) j2)) = _; rw [ht]; rfl
          rw [hlo]
          refine JJ_iload_n dX9_readEither_7 rfl rfl ?_
          refine JJ_sipush (v := 160) dX9_readEither_8 rfl ?_
          refine JJ_icmp_ge (tgt := 44) dX9_readEither_11 (by decide) (fun c7 => absurd c7 (nI_ge (b := 160) (by omega) (by omega))) (fun _ => ?_)
          refine JJ_aload_n dX9_readEither_14 rfl rfl ?_
          refine JJ_geti (v := (tok b m j).1) (cis := [9]) (k := 5) fa_X9_29 (by decide) (congrArg Prod.fst (hC.sh (t := 2) (k := 10) (m := 0) (by decide))) rfl (hX.1 _ _ (by omega) (by omega) (by omega)) hx.2.2.2.2.2.2.1 dX9_readEither_15 ?_
          refine JJ_bipush (v := 6) dX9_readEither_18 rfl ?_
          refine JJ_icmp_ne (tgt := 44) dX9_readEither_20 (by decide) (fun c8 => absurd ht c8) (fun _ => ?_)
          refine JJ_aload_n dX9_readEither_23 rfl rfl ?_
          refine JJ_callV (rest := []) (congrArg Prod.fst (hC.sh (t := 2) (k := 10) (m := 0) (by decide))) rfl rfl (kc_nextG hx (by rw [ht]; decide) hC hX) (by omega) mi_X9_next lk_X9_57 rfl (Nat.le_of_ble_eq_true rfl) rfl rfl dX9_readEither_24 ?_
          intro v9 μ10 h11
          obtain ⟨rfl, My, rfl, hy, hky⟩ := h11
          refine JJ_r0 ?_
          refine JJ_aload_n dX9_readEither_27 rfl rfl ?_
          refine JJ_iload_n dX9_readEither_28 rfl rfl ?_
          refine JJ_callV (rest := []) (congrArg Prod.fst (hC.sh (t := 2) (k := 10) (m := 0) (by decide))) rfl rfl (hsub _ _ _ _ _ hy hC hX) (by omega) mi_X9_readBoth lk_X9_75 rfl (Nat.le_of_ble_eq_true rfl) rfl rfl dX9_readEither_29 ?_
          intro v12 μ13 h14
          obtain ⟨rfl, Mz, rfl, hpz, hkz⟩ := h14
          refine JJ_r0 ?_
          rcases hq2 : (gBoth b m one) (tok b m j).2.2.2 with q2 | ⟨c2, d2, j2⟩
          · skip
            rw [hq2] at hpz
            have hpz : RBAD x r b m q2 P Mz := hpz
            refine JJ_aload_n dX9_readEither_32 rfl rfl ?_
            refine JJ_bipush (v := (-9)) dX9_readEither_33 rfl ?_
            refine JJ_callV (rest := []) (congrArg Prod.fst (hC.sh (t := 2) (k := 10) (m := 0) (by decide))) rfl rfl (kc_emitB hpz hC hX) (by omega) mi_X9_emit lk_X9_78 rfl (Nat.le_of_ble_eq_true rfl) rfl rfl dX9_readEither_35 ?_
            intro v15 μ16 h17
            obtain ⟨rfl, Mw, rfl, hw, hkw⟩ := h17
            refine JJ_r0 ?_
            refine JJ_iinc (v := nI (k0 + 1)) (lv' := [(2, .int (nI (k0 + 1))), (0, .ref (x + 2)), (1, .int op)]) dX9_readEither_38 rfl (nI_add (k0) 1) (by decide) rfl ?_
            refine JJ_goto (tgt := 7) dX9_readEither_41 (by decide) ?_
            refine JJ_iload_n dX9_readEither_7 rfl rfl ?_
            refine JJ_sipush (v := 160) dX9_readEither_8 rfl ?_
            refine JJ_icmp_ge (tgt := 44) dX9_readEither_11 (by decide) (fun c18 => ?_) (fun c18 => ?_)
            · skip
              refine JJ_vret dX9_readEither_44 rfl ?_
              exact ⟨rfl, Mw, rfl, hw, (fun a k z => (hkw a k z).trans ((hkz a k z).trans ((hky a k z).trans (hf a k z))))⟩
            · skip
              refine JJ_aload_n dX9_readEither_14 rfl rfl ?_
              refine JJ_geti (v := 9) (cis := [9]) (k := 5) fa_X9_29 (by decide) (congrArg Prod.fst (hC.sh (t := 2) (k := 10) (m := 0) (by decide))) rfl (hX.1 _ _ (by omega) (by omega) (by omega)) hw.2.2.1 dX9_readEither_15 ?_
              refine JJ_bipush (v := 6) dX9_readEither_18 rfl ?_
              refine JJ_icmp_ne (tgt := 44) dX9_readEither_20 (by decide) (fun _ => ?_) (fun c19 => absurd c19 (by decide))
              refine JJ_vret dX9_readEither_44 rfl ?_
              exact ⟨rfl, Mw, rfl, hw, (fun a k z => (hkw a k z).trans ((hkz a k z).trans ((hky a k z).trans (hf a k z))))⟩
          · skip
            rw [hq2] at hpz
            have hpz : ROK x r b m (cs ++ c ++ c2) j2 P Mz := hpz
            obtain ⟨k1, k2, k3, k4⟩ := hgd _ _ _ _ e2 hq2
            have hl := hx.2.2.1
            refine JJ_aload_n dX9_readEither_32 rfl rfl ?_
            refine JJ_bipush (v := (-9)) dX9_readEither_33 rfl ?_
            refine JJ_callV (rest := []) (congrArg Prod.fst (hC.sh (t := 2) (k := 10) (m := 0) (by decide))) rfl rfl (kc_emitG hpz (by simp only [List.length_append] at hl ⊢; omega) hC hX) (by omega) mi_X9_emit lk_X9_78 rfl (Nat.le_of_ble_eq_true rfl) rfl rfl dX9_readEither_35 ?_
            intro v20 μ21 h22
            obtain ⟨rfl, Mw, rfl, hw, hkw⟩ := h22
            refine JJ_r0 ?_
            refine JJ_iinc (v := nI (k0 + 1)) (lv' := [(2, .int (nI (k0 + 1))), (0, .ref (x + 2)), (1, .int op)]) dX9_readEither_38 rfl (nI_add (k0) 1) (by decide) rfl ?_
            refine JJ_goto (tgt := 7) dX9_readEither_41 (by decide) ?_
            refine JJ.pick [0, 1, 2] rfl ?_
            rw [show cs ++ c ++ c2 ++ [(-9)] = cs ++ (c ++ c2 ++ [(-9)]) by simp only [List.append_assoc]] at hw
            exact ih (k0 + 1) _ _ j2 Mw (by omega) hw (fun a k z => (hkw a k z).trans ((hkz a k z).trans ((hky a k z).trans (hf a k z))))
        · skip
          have hlo : gLoop b m oOr (gBoth b m one) (k + 1) c d0 j = .inr (c, d0, j) := by show (match oOr (tok b m j).1 with | none => (.inr (c, d0, j) : PR) | some o => pBind ((gBoth b m one) (tok b m j).2.2.2) (fun c2 d2 j2 => gLoop b m oOr (gBoth b m one) k (c ++ c2 ++ [o.1]) (fun nm => o.2 (d0 nm) (d2 nm)) j2)) = _; rw [show oOr (tok b m j).1 = none from if_neg ht]
          rw [hlo]
          refine JJ_iload_n dX9_readEither_7 rfl rfl ?_
          refine JJ_sipush (v := 160) dX9_readEither_8 rfl ?_
          refine JJ_icmp_ge (tgt := 44) dX9_readEither_11 (by decide) (fun c23 => absurd c23 (nI_ge (b := 160) (by omega) (by omega))) (fun _ => ?_)
          refine JJ_aload_n dX9_readEither_14 rfl rfl ?_
          refine JJ_geti (v := (tok b m j).1) (cis := [9]) (k := 5) fa_X9_29 (by decide) (congrArg Prod.fst (hC.sh (t := 2) (k := 10) (m := 0) (by decide))) rfl (hX.1 _ _ (by omega) (by omega) (by omega)) hx.2.2.2.2.2.2.1 dX9_readEither_15 ?_
          refine JJ_bipush (v := 6) dX9_readEither_18 rfl ?_
          refine JJ_icmp_ne (tgt := 44) dX9_readEither_20 (by decide) (fun _ => ?_) (fun c24 => absurd c24 ht)
          refine JJ_vret dX9_readEither_44 rfl ?_
          exact ⟨rfl, Mx, rfl, hx, hf⟩
    refine JJ_iconst (v := 0) dX9_readEither_5 rfl ?_
    refine JJ_istore_n (lv' := [(2, .int 0), (0, .ref (x + 2)), (1, .int op)]) dX9_readEither_6 rfl (by decide) rfl ?_
    refine JJ.pick [0, 1, 2] rfl ?_
    exact key 160 0 c d0 j Mb (by omega) hpo hkb
end C32
