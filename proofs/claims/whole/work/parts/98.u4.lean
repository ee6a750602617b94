section C34
variable {G : Gx} {sc : Nat → Nat → Prop} {n : Nat} {S : Nat → Nat × Nat} {M : Nat → Nat → Int32} {L : Nat → Nat → Int64} {P : Nat → Nat → Option Nat} {x : Nat} {A B : Abs} {b : Nat → Int32} {r m : Nat}

set_option maxHeartbeats 4000000 in
set_option maxRecDepth 100000 in
theorem kc_readNot {d ds dn o : Nat} {can : Bool} {n1 one : PF} (hs : RS G sc n S x r b m ds yX9_readSum cX9_readSum 4 (nI o) (gSum b m one)) (hgs : GD m (gSum b m one)) (hn : can = true → o < 5 ∧ GD m n1 ∧ RS G sc n S x r b m dn yX9_readNot cX9_readNot 3 (nI (o + 1)) n1) (hf : ¬ can = true → o = 5) (hd1 : ds < d) (hd2 : dn < d) (hd3 : 9 < d) : RS G sc n S x r b m d yX9_readNot cX9_readNot 3 (nI o) (gNot b m can n1 one) := by
  intro cs i M L P h hC hX
  have hi := h.2.1
  have hl0 := h.2.2.1
  by_cases h8 : (tok b m i).1 = 8
  · skip
    by_cases hcan : can = true
    · skip
      obtain ⟨ho, hgn, hnn⟩ := hn hcan
      obtain ⟨e1, e2⟩ := tk_e (b := b) (m := m) (i := i) (by rw [h8]; decide)
      have e0 : gNot b m can n1 one i = pBind (n1 (tok b m i).2.2.2) (fun c d j => .inr (c ++ [-7], fun nm => b2 (d nm = 0), j)) := (if_pos h8).trans (if_pos hcan)
      rw [e0]
      refine KK_of2 [(0, .ref (x + 2)), (1, .int (nI o))] (by decide +kernel) (Nat.le_of_ble_eq_true rfl) rfl ?_
      refine JJ_aload_n dX9_readNot_0 rfl rfl ?_
      refine JJ_geti (v := (tok b m i).1) (cis := [9]) (k := 5) fa_X9_29 (by decide) (congrArg Prod.fst (hC.sh (t := 2) (k := 10) (m := 0) (by decide))) rfl (hX.1 _ _ (by omega) (by omega) (by omega)) h.2.2.2.2.2.2.1 dX9_readNot_1 ?_
      refine JJ_bipush (v := 8) dX9_readNot_4 rfl ?_
      refine JJ_icmp_ne (tgt := 31) dX9_readNot_6 (by decide) (fun c1 => absurd h8 c1) (fun _ => ?_)
      refine JJ_aload_n dX9_readNot_9 rfl rfl ?_
      refine JJ_iload_n dX9_readNot_10 rfl rfl ?_
      refine JJ_callV (rest := []) (congrArg Prod.fst (hC.sh (t := 2) (k := 10) (m := 0) (by decide))) rfl rfl (kc_opensY h ho (by rw [h8]; decide) hC hX) (by omega) mi_X9_opens lk_X9_84 rfl (Nat.le_of_ble_eq_true rfl) rfl rfl dX9_readNot_11 ?_
      intro v2 μ3 h4
      obtain ⟨rfl, My, rfl, hy, hky⟩ := h4
      refine JJ_r1 ?_
      refine JJ_if_eq (tgt := 30) dX9_readNot_14 (by decide) (fun c5 => absurd c5 (by decide)) (fun _ => ?_)
      refine JJ_aload_n dX9_readNot_17 rfl rfl ?_
      refine JJ_iload_n dX9_readNot_18 rfl rfl ?_
      refine JJ_iconst (v := 1) dX9_readNot_19 rfl ?_
      refine JJ_iadd dX9_readNot_20 ?_
      refine JJ_eqi (x2 := nI (o + 1)) (nI_add (o) (1)) ?_
      refine JJ_callV (rest := []) (congrArg Prod.fst (hC.sh (t := 2) (k := 10) (m := 0) (by decide))) rfl rfl (hnn _ _ _ _ _ hy hC hX) (by omega) mi_X9_readNot lk_X9_81 rfl (Nat.le_of_ble_eq_true rfl) rfl rfl dX9_readNot_21 ?_
      intro v6 μ7 h8
      obtain ⟨rfl, Mz, rfl, hpz, hkz⟩ := h8
      refine JJ_r0 ?_
      rcases hq : n1 (tok b m i).2.2.2 with q | ⟨c, d0, j⟩
      · skip
        rw [hq] at hpz
        have hpz : RBAD x r b m q P Mz := hpz
        refine JJ_aload_n dX9_readNot_24 rfl rfl ?_
        refine JJ_bipush (v := (-7)) dX9_readNot_25 rfl ?_
        refine JJ_callV (rest := []) (congrArg Prod.fst (hC.sh (t := 2) (k := 10) (m := 0) (by decide))) rfl rfl (kc_emitB hpz hC hX) (by omega) mi_X9_emit lk_X9_78 rfl (Nat.le_of_ble_eq_true rfl) rfl rfl dX9_readNot_27 ?_
        intro v9 μ10 h11
        obtain ⟨rfl, Mw, rfl, hw, hkw⟩ := h11
        refine JJ_r0 ?_
        refine JJ_vret dX9_readNot_30 rfl ?_
        exact ⟨rfl, Mw, rfl, hw, (fun a k z => (hkw a k z).trans ((hkz a k z).trans (hky a k z)))⟩
      · skip
        rw [hq] at hpz
        have hpz : ROK x r b m (cs ++ c) j P Mz := hpz
        obtain ⟨k1, k2, k3, k4⟩ := hgn _ _ _ _ e2 hq
        refine JJ_aload_n dX9_readNot_24 rfl rfl ?_
        refine JJ_bipush (v := (-7)) dX9_readNot_25 rfl ?_
        refine JJ_callV (rest := []) (congrArg Prod.fst (hC.sh (t := 2) (k := 10) (m := 0) (by decide))) rfl rfl (kc_emitG hpz (by simp only [List.length_append]; omega) hC hX) (by omega) mi_X9_emit lk_X9_78 rfl (Nat.le_of_ble_eq_true rfl) rfl rfl dX9_readNot_27 ?_
        intro v12 μ13 h14
        obtain ⟨rfl, Mw, rfl, hw, hkw⟩ := h14
        refine JJ_r0 ?_
        refine JJ_vret dX9_readNot_30 rfl ?_
        exact ⟨rfl, Mw, rfl, (by rw [List.append_assoc] at hw; exact hw : ROK x r b m (cs ++ (c ++ [-7])) j P Mw), (fun a k z => (hkw a k z).trans ((hkz a k z).trans (hky a k z)))⟩
    · skip
      obtain rfl := hf hcan
      have e0 : gNot b m can n1 one i = .inl (tok b m i).2.2.1 := (if_pos h8).trans (if_neg hcan)
      rw [e0]
      refine KK_of2 [(0, .ref (x + 2)), (1, .int (nI 5))] (by decide +kernel) (Nat.le_of_ble_eq_true rfl) rfl ?_
      refine JJ_aload_n dX9_readNot_0 rfl rfl ?_
      refine JJ_geti (v := (tok b m i).1) (cis := [9]) (k := 5) fa_X9_29 (by decide) (congrArg Prod.fst (hC.sh (t := 2) (k := 10) (m := 0) (by decide))) rfl (hX.1 _ _ (by omega) (by omega) (by omega)) h.2.2.2.2.2.2.1 dX9_readNot_1 ?_
      refine JJ_bipush (v := 8) dX9_readNot_4 rfl ?_
      refine JJ_icmp_ne (tgt := 31) dX9_readNot_6 (by decide) (fun c15 => absurd h8 c15) (fun _ => ?_)
      refine JJ_aload_n dX9_readNot_9 rfl rfl ?_
      refine JJ_iload_n dX9_readNot_10 rfl rfl ?_
      refine JJ_callV (rest := []) (congrArg Prod.fst (hC.sh (t := 2) (k := 10) (m := 0) (by decide))) rfl rfl (kc_opensN h hC hX) (by omega) mi_X9_opens lk_X9_84 rfl (Nat.le_of_ble_eq_true rfl) rfl rfl dX9_readNot_11 ?_
      intro v16 μ17 h18
      obtain ⟨rfl, My, rfl, hy, hky⟩ := h18
      refine JJ_r1 ?_
      refine JJ_if_eq (tgt := 30) dX9_readNot_14 (by decide) (fun _ => ?_) (fun c19 => absurd (by decide) c19)
      refine JJ_vret dX9_readNot_30 rfl ?_
      exact ⟨rfl, My, rfl, hy, hky⟩
  · skip
    have e0 : gNot b m can n1 one i = pBind (gSum b m one i) (fun c d j => match oCmp (tok b m j).1 with | none => .inr (c, d, j) | some o => pBind (gSum b m one (tok b m j).2.2.2) (fun c2 d2 j2 => .inr (c ++ c2 ++ [o.1], fun nm => o.2 (d nm) (d2 nm), j2))) := if_neg h8
    rw [e0]
    refine KK_of2 [(0, .ref (x + 2)), (1, .int (nI o))] (by decide +kernel) (Nat.le_of_ble_eq_true rfl) rfl ?_
    refine JJ_aload_n dX9_readNot_0 rfl rfl ?_
    refine JJ_geti (v := (tok b m i).1) (cis := [9]) (k := 5) fa_X9_29 (by decide) (congrArg Prod.fst (hC.sh (t := 2) (k := 10) (m := 0) (by decide))) rfl (hX.1 _ _ (by omega) (by omega) (by omega)) h.2.2.2.2.2.2.1 dX9_readNot_1 ?_
    refine JJ_bipush (v := 8) dX9_readNot_4 rfl ?_
    refine JJ_icmp_ne (tgt := 31) dX9_readNot_6 (by decide) (fun _ => ?_) (fun c20 => absurd c20 h8)
    refine JJ_aload_n dX9_readNot_31 rfl rfl ?_
    refine JJ_iload_n dX9_readNot_32 rfl rfl ?_
    refine JJ_callV (rest := []) (congrArg Prod.fst (hC.sh (t := 2) (k := 10) (m := 0) (by decide))) rfl rfl (hs _ _ _ _ _ h hC hX) (by omega) mi_X9_readSum lk_X9_87 rfl (Nat.le_of_ble_eq_true rfl) rfl rfl dX9_readNot_33 ?_
    intro v21 μ22 h23
    obtain ⟨rfl, Mb, rfl, hpo, hkb⟩ := h23
    refine JJ_r0 ?_
    rcases hq : gSum b m one i with q | ⟨c, d0, j⟩
    · skip
      rw [hq] at hpo
      have hpo : RBAD x r b m q P Mb := hpo
      refine JJ_aload_n dX9_readNot_36 rfl rfl ?_
      refine JJ_geti (v := 9) (cis := [9]) (k := 5) fa_X9_29 (by decide) (congrArg Prod.fst (hC.sh (t := 2) (k := 10) (m := 0) (by decide))) rfl (hX.1 _ _ (by omega) (by omega) (by omega)) hpo.2.2.1 dX9_readNot_37 ?_
      refine JJ_bipush (v := 60) dX9_readNot_40 rfl ?_
      refine JJ_icmp_eq (tgt := 54) dX9_readNot_42 (by decide) (fun c24 => absurd c24 (by decide)) (fun _ => ?_)
      refine JJ_aload_n dX9_readNot_45 rfl rfl ?_
      refine JJ_geti (v := 9) (cis := [9]) (k := 5) fa_X9_29 (by decide) (congrArg Prod.fst (hC.sh (t := 2) (k := 10) (m := 0) (by decide))) rfl (hX.1 _ _ (by omega) (by omega) (by omega)) hpo.2.2.1 dX9_readNot_46 ?_
      refine JJ_bipush (v := 61) dX9_readNot_49 rfl ?_
      refine JJ_icmp_ne (tgt := 85) dX9_readNot_51 (by decide) (fun _ => ?_) (fun c25 => absurd c25 (by decide))
      refine JJ_vret dX9_readNot_85 rfl ?_
      exact ⟨rfl, Mb, rfl, hpo, hkb⟩
    · skip
      rw [hq] at hpo
      have hpo : ROK x r b m (cs ++ c) j P Mb := hpo
      obtain ⟨g1, g2, g3, g4⟩ := hgs _ _ _ _ hi hq
      have hl1 := hpo.2.2.1
      by_cases h60 : (tok b m j).1 = 60
      · skip
        have ht := h60
        obtain ⟨e1, e2⟩ := tk_e (b := b) (m := m) (i := j) (by rw [ht]; decide)
        have ec : oCmp (tok b m j).1 = oCmp 60 := by rw [ht]
        have em : (match oCmp (tok b m j).1 with | none => (.inr (c, d0, j) : PR) | some o => pBind (gSum b m one (tok b m j).2.2.2) (fun c2 d2 j2 => .inr (c ++ c2 ++ [o.1], fun nm => o.2 (d0 nm) (d2 nm), j2))) = (pBind (gSum b m one (tok b m j).2.2.2) (fun c2 d2 j2 => .inr (c ++ c2 ++ [(-11)], fun nm => ((oCmp 60).getD (0, fun _ _ => 0)).2 (d0 nm) (d2 nm), j2))) := by rw [ec]; rfl
        refine JJ_aload_n dX9_readNot_36 rfl rfl ?_
        refine JJ_geti (v := (tok b m j).1) (cis := [9]) (k := 5) fa_X9_29 (by decide) (congrArg Prod.fst (hC.sh (t := 2) (k := 10) (m := 0) (by decide))) rfl (hX.1 _ _ (by omega) (by omega) (by omega)) hpo.2.2.2.2.2.2.1 dX9_readNot_37 ?_
        refine JJ_bipush (v := 60) dX9_readNot_40 rfl ?_
        refine JJ_icmp_eq (tgt := 54) dX9_readNot_42 (by decide) (fun _ => ?_) (fun c26 => absurd ht c26)
        refine JJ_aload_n dX9_readNot_54 rfl rfl ?_
        refine JJ_geti (v := (tok b m j).1) (cis := [9]) (k := 5) fa_X9_29 (by decide) (congrArg Prod.fst (hC.sh (t := 2) (k := 10) (m := 0) (by decide))) rfl (hX.1 _ _ (by omega) (by omega) (by omega)) hpo.2.2.2.2.2.2.1 dX9_readNot_55 ?_
        refine JJ_bipush (v := 60) dX9_readNot_58 rfl ?_
        refine JJ_icmp_ne (tgt := 68) dX9_readNot_60 (by decide) (fun c27 => absurd ht c27) (fun _ => ?_)
        refine JJ_bipush (v := (-11)) dX9_readNot_63 rfl ?_
        refine JJ_goto (tgt := 70) dX9_readNot_65 (by decide) ?_
        refine JJ_istore_n (lv' := [(2, .int ((-11))), (0, .ref (x + 2)), (1, .int (nI o))]) dX9_readNot_70 rfl (by decide) rfl ?_
        refine JJ_aload_n dX9_readNot_71 rfl rfl ?_
        refine JJ_callV (rest := []) (congrArg Prod.fst (hC.sh (t := 2) (k := 10) (m := 0) (by decide))) rfl rfl (kc_nextG hpo (by rw [ht]; decide) hC hX) (by omega) mi_X9_next lk_X9_57 rfl (Nat.le_of_ble_eq_true rfl) rfl rfl dX9_readNot_72 ?_
        intro v28 μ29 h30
        obtain ⟨rfl, My, rfl, hy, hky⟩ := h30
        refine JJ_r0 ?_
        refine JJ_aload_n dX9_readNot_75 rfl rfl ?_
        refine JJ_iload_n dX9_readNot_76 rfl rfl ?_
        refine JJ_callV (rest := []) (congrArg Prod.fst (hC.sh (t := 2) (k := 10) (m := 0) (by decide))) rfl rfl (hs _ _ _ _ _ hy hC hX) (by omega) mi_X9_readSum lk_X9_87 rfl (Nat.le_of_ble_eq_true rfl) rfl rfl dX9_readNot_77 ?_
        intro v31 μ32 h33
        obtain ⟨rfl, Mz, rfl, hpz, hkz⟩ := h33
        refine JJ_r0 ?_
        rcases hq2 : gSum b m one (tok b m j).2.2.2 with q2 | ⟨c2, d2, j2⟩
        · skip
          rw [hq2] at hpz
          rw [hq2] at em
          have hpz : RBAD x r b m q2 P Mz := hpz
          refine JJ_aload_n dX9_readNot_80 rfl rfl ?_
          refine JJ_iload_n dX9_readNot_81 rfl rfl ?_
          refine JJ_callV (rest := []) (congrArg Prod.fst (hC.sh (t := 2) (k := 10) (m := 0) (by decide))) rfl rfl (kc_emitB hpz hC hX) (by omega) mi_X9_emit lk_X9_78 rfl (Nat.le_of_ble_eq_true rfl) rfl rfl dX9_readNot_82 ?_
          intro v34 μ35 h36
          obtain ⟨rfl, Mw, rfl, hw, hkw⟩ := h36
          refine JJ_r0 ?_
          refine JJ_vret dX9_readNot_85 rfl ?_
          refine ⟨rfl, Mw, rfl, ?_, (fun a k z => (hkw a k z).trans ((hkz a k z).trans ((hky a k z).trans (hkb a k z))))⟩
          show RPO x r b m cs (match oCmp (tok b m j).1 with | none => (.inr (c, d0, j) : PR) | some o => pBind (gSum b m one (tok b m j).2.2.2) (fun c2 d2 j2 => .inr (c ++ c2 ++ [o.1], fun nm => o.2 (d0 nm) (d2 nm), j2))) P Mw
          rw [hq2, em]
          exact hw
        · skip
          rw [hq2] at hpz
          rw [hq2] at em
          have hpz : ROK x r b m (cs ++ c ++ c2) j2 P Mz := hpz
          obtain ⟨k1, k2, k3, k4⟩ := hgs _ _ _ _ e2 hq2
          refine JJ_aload_n dX9_readNot_80 rfl rfl ?_
          refine JJ_iload_n dX9_readNot_81 rfl rfl ?_
          refine JJ_callV (rest := []) (congrArg Prod.fst (hC.sh (t := 2) (k := 10) (m := 0) (by decide))) rfl rfl (kc_emitG hpz (by simp only [List.length_append] at hl1 ⊢; omega) hC hX) (by omega) mi_X9_emit lk_X9_78 rfl (Nat.le_of_ble_eq_true rfl) rfl rfl dX9_readNot_82 ?_
          intro v37 μ38 h39
          obtain ⟨rfl, Mw, rfl, hw, hkw⟩ := h39
          refine JJ_r0 ?_
          refine JJ_vret dX9_readNot_85 rfl ?_
          rw [show cs ++ c ++ c2 ++ [(-11)] = cs ++ (c ++ c2 ++ [(-11)]) by simp only [List.append_assoc]] at hw
          refine ⟨rfl, Mw, rfl, ?_, (fun a k z => (hkw a k z).trans ((hkz a k z).trans ((hky a k z).trans (hkb a k z))))⟩
          show RPO x r b m cs (match oCmp (tok b m j).1 with | none => (.inr (c, d0, j) : PR) | some o => pBind (gSum b m one (tok b m j).2.2.2) (fun c2 d2 j2 => .inr (c ++ c2 ++ [o.1], fun nm => o.2 (d0 nm) (d2 nm), j2))) P Mw
          rw [hq2, em]
          exact hw
      · skip
        by_cases h61 : (tok b m j).1 = 61
        · skip
          have ht := h61
          obtain ⟨e1, e2⟩ := tk_e (b := b) (m := m) (i := j) (by rw [ht]; decide)
          have ec : oCmp (tok b m j).1 = oCmp 61 := by rw [ht]
          have em : (match oCmp (tok b m j).1 with | none => (.inr (c, d0, j) : PR) | some o => pBind (gSum b m one (tok b m j).2.2.2) (fun c2 d2 j2 => .inr (c ++ c2 ++ [o.1], fun nm => o.2 (d0 nm) (d2 nm), j2))) = (pBind (gSum b m one (tok b m j).2.2.2) (fun c2 d2 j2 => .inr (c ++ c2 ++ [(-12)], fun nm => ((oCmp 61).getD (0, fun _ _ => 0)).2 (d0 nm) (d2 nm), j2))) := by rw [ec]; rfl
          refine JJ_aload_n dX9_readNot_36 rfl rfl ?_
          refine JJ_geti (v := (tok b m j).1) (cis := [9]) (k := 5) fa_X9_29 (by decide) (congrArg Prod.fst (hC.sh (t := 2) (k := 10) (m := 0) (by decide))) rfl (hX.1 _ _ (by omega) (by omega) (by omega)) hpo.2.2.2.2.2.2.1 dX9_readNot_37 ?_
          refine JJ_bipush (v := 60) dX9_readNot_40 rfl ?_
          refine JJ_icmp_eq (tgt := 54) dX9_readNot_42 (by decide) (fun c40 => absurd c40 h60) (fun _ => ?_)
          refine JJ_aload_n dX9_readNot_45 rfl rfl ?_
          refine JJ_geti (v := (tok b m j).1) (cis := [9]) (k := 5) fa_X9_29 (by decide) (congrArg Prod.fst (hC.sh (t := 2) (k := 10) (m := 0) (by decide))) rfl (hX.1 _ _ (by omega) (by omega) (by omega)) hpo.2.2.2.2.2.2.1 dX9_readNot_46 ?_
          refine JJ_bipush (v := 61) dX9_readNot_49 rfl ?_
          refine JJ_icmp_ne (tgt := 85) dX9_readNot_51 (by decide) (fun c41 => absurd ht c41) (fun _ => ?_)
          refine JJ_aload_n dX9_readNot_54 rfl rfl ?_
          refine JJ_geti (v := (tok b m j).1) (cis := [9]) (k := 5) fa_X9_29 (by decide) (congrArg Prod.fst (hC.sh (t := 2) (k := 10) (m := 0) (by decide))) rfl (hX.1 _ _ (by omega) (by omega) (by omega)) hpo.2.2.2.2.2.2.1 dX9_readNot_55 ?_
          refine JJ_bipush (v := 60) dX9_readNot_58 rfl ?_
          refine JJ_icmp_ne (tgt := 68) dX9_readNot_60 (by decide) (fun _ => ?_) (fun c42 => absurd c42 h60)
          refine JJ_bipush (v := (-12)) dX9_readNot_68 rfl ?_
          refine JJ_istore_n (lv' := [(2, .int ((-12))), (0, .ref (x + 2)), (1, .int (nI o))]) dX9_readNot_70 rfl (by decide) rfl ?_
          refine JJ_aload_n dX9_readNot_71 rfl rfl ?_
          refine JJ_callV (rest := []) (congrArg Prod.fst (hC.sh (t := 2) (k := 10) (m := 0) (by decide))) rfl rfl (kc_nextG hpo (by rw [ht]; decide) hC hX) (by omega) mi_X9_next lk_X9_57 rfl (Nat.le_of_ble_eq_true rfl) rfl rfl dX9_readNot_72 ?_
          intro v43 μ44 h45
          obtain ⟨rfl, My, rfl, hy, hky⟩ := h45
          refine JJ_r0 ?_
          refine JJ_aload_n dX9_readNot_75 rfl rfl ?_
          refine JJ_iload_n dX9_readNot_76 rfl rfl ?_
          refine JJ_callV (rest := []) (congrArg Prod.fst (hC.sh (t := 2) (k := 10) (m := 0) (by decide))) rfl rfl (hs _ _ _ _ _ hy hC hX) (by omega) mi_X9_readSum lk_X9_87 rfl (Nat.le_of_ble_eq_true rfl) rfl rfl dX9_readNot_77 ?_
          intro v46 μ47 h48
          obtain ⟨rfl, Mz, rfl, hpz, hkz⟩ := h48
          refine JJ_r0 ?_
          rcases hq2 : gSum b m one (tok b m j).2.2.2 with q2 | ⟨c2, d2, j2⟩
          · skip
            rw [hq2] at hpz
            rw [hq2] at em
            have hpz : RBAD x r b m q2 P Mz := hpz
            refine JJ_aload_n dX9_readNot_80 rfl rfl ?_
            refine JJ_iload_n dX9_readNot_81 rfl rfl ?_
            refine JJ_callV (rest := []) (congrArg Prod.fst (hC.sh (t := 2) (k := 10) (m := 0) (by decide))) rfl rfl (kc_emitB hpz hC hX) (by omega) mi_X9_emit lk_X9_78 rfl (Nat.le_of_ble_eq_true rfl) rfl rfl dX9_readNot_82 ?_
            intro v49 μ50 h51
            obtain ⟨rfl, Mw, rfl, hw, hkw⟩ := h51
            refine JJ_r0 ?_
            refine JJ_vret dX9_readNot_85 rfl ?_
            refine ⟨rfl, Mw, rfl, ?_, (fun a k z => (hkw a k z).trans ((hkz a k z).trans ((hky a k z).trans (hkb a k z))))⟩
            show RPO x r b m cs (match oCmp (tok b m j).1 with | none => (.inr (c, d0, j) : PR) | some o => pBind (gSum b m one (tok b m j).2.2.2) (fun c2 d2 j2 => .inr (c ++ c2 ++ [o.1], fun nm => o.2 (d0 nm) (d2 nm), j2))) P Mw
            rw [hq2, em]
            exact hw
          · skip
            rw [hq2] at hpz
            rw [hq2] at em
            have hpz : ROK x r b m (cs ++ c ++ c2) j2 P Mz := hpz
            obtain ⟨k1, k2, k3, k4⟩ := hgs _ _ _ _ e2 hq2
            refine JJ_aload_n dX9_readNot_80 rfl rfl ?_
            refine JJ_iload_n dX9_readNot_81 rfl rfl ?_
            refine JJ_callV (rest := []) (congrArg Prod.fst (hC.sh (t := 2) (k := 10) (m := 0) (by decide))) rfl rfl (kc_emitG hpz (by simp only [List.length_append] at hl1 ⊢; omega) hC hX) (by omega) mi_X9_emit lk_X9_78 rfl (Nat.le_of_ble_eq_true rfl) rfl rfl dX9_readNot_82 ?_
            intro v52 μ53 h54
            obtain ⟨rfl, Mw, rfl, hw, hkw⟩ := h54
            refine JJ_r0 ?_
            refine JJ_vret dX9_readNot_85 rfl ?_
            rw [show cs ++ c ++ c2 ++ [(-12)] = cs ++ (c ++ c2 ++ [(-12)]) by simp only [List.append_assoc]] at hw
            refine ⟨rfl, Mw, rfl, ?_, (fun a k z => (hkw a k z).trans ((hkz a k z).trans ((hky a k z).trans (hkb a k z))))⟩
            show RPO x r b m cs (match oCmp (tok b m j).1 with | none => (.inr (c, d0, j) : PR) | some o => pBind (gSum b m one (tok b m j).2.2.2) (fun c2 d2 j2 => .inr (c ++ c2 ++ [o.1], fun nm => o.2 (d0 nm) (d2 nm), j2))) P Mw
            rw [hq2, em]
            exact hw
        · skip
          refine JJ_aload_n dX9_readNot_36 rfl rfl ?_
          refine JJ_geti (v := (tok b m j).1) (cis := [9]) (k := 5) fa_X9_29 (by decide) (congrArg Prod.fst (hC.sh (t := 2) (k := 10) (m := 0) (by decide))) rfl (hX.1 _ _ (by omega) (by omega) (by omega)) hpo.2.2.2.2.2.2.1 dX9_readNot_37 ?_
          refine JJ_bipush (v := 60) dX9_readNot_40 rfl ?_
          refine JJ_icmp_eq (tgt := 54) dX9_readNot_42 (by decide) (fun c55 => absurd c55 h60) (fun _ => ?_)
          refine JJ_aload_n dX9_readNot_45 rfl rfl ?_
          refine JJ_geti (v := (tok b m j).1) (cis := [9]) (k := 5) fa_X9_29 (by decide) (congrArg Prod.fst (hC.sh (t := 2) (k := 10) (m := 0) (by decide))) rfl (hX.1 _ _ (by omega) (by omega) (by omega)) hpo.2.2.2.2.2.2.1 dX9_readNot_46 ?_
          refine JJ_bipush (v := 61) dX9_readNot_49 rfl ?_
          refine JJ_icmp_ne (tgt := 85) dX9_readNot_51 (by decide) (fun _ => ?_) (fun c56 => absurd c56 h61)
          refine JJ_vret dX9_readNot_85 rfl ?_
          refine ⟨rfl, Mb, rfl, ?_, hkb⟩
          show RPO x r b m cs (match oCmp (tok b m j).1 with | none => (.inr (c, d0, j) : PR) | some o => pBind (gSum b m one (tok b m j).2.2.2) (fun c2 d2 j2 => .inr (c ++ c2 ++ [o.1], fun nm => o.2 (d0 nm) (d2 nm), j2))) P Mb
          rw [show oCmp (tok b m j).1 = none from (if_neg h60).trans (if_neg h61)]
          exact hpo
end C34
