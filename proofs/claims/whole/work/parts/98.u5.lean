section C35
variable {G : Gx} {sc : Nat → Nat → Prop} {n : Nat} {S : Nat → Nat × Nat} {M : Nat → Nat → Int32} {L : Nat → Nat → Int64} {P : Nat → Nat → Option Nat} {x : Nat} {A B : Abs} {b : Nat → Int32} {r m : Nat}

/-- a token's code is written, the token not yet left -/
def ROK1 (x r : Nat) (b : Nat → Int32) (m : Nat) (cs : List Int32) (i : Nat) (P : Nat → Nat → Option Nat) (M : Nat → Nat → Int32) : Prop := RDB x r b m P M ∧ i ≤ m ∧ cs.length ≤ i + 1 ∧ M (x + 10 + 5 * r) 5 = nI cs.length ∧ (∀ k, k < cs.length → M (x + 10 + 5 * r + 1) k = cs.getD k 0) ∧ M (x + 2) 7 = -1 ∧ TKC x b m i M
/-- next, from a good state before a token that is something -/
theorem kc_nextT {i : Nat} {cs : List Int32} (h : ROK1 x r b m cs i P M) (hk : (tok b m i).1 ≠ 0) (hC : CWT x S P) (hX : HSC x sc) : KK G sc yX9_next cX9_next 2 none 8 0 0 [.ref (x + 2)] (n, S, M, L, P) (fun v μ => v = none ∧ ∃ M', μ = (n, S, M', L, P) ∧ ROK x r b m cs (tok b m i).2.2.2 P M' ∧ ∀ a k, ¬ RCH x r a k → M' a k = M a k) := by
  obtain ⟨q1, q2, q3, q4, q5, q6, t5, t4, t3, t6⟩ := h
  have hr := q1.1
  obtain ⟨e1, e2⟩ := tk_e hk
  refine KK_mono (kc_next q1.2.2.2.1 q1.2.2.1 q1.2.1 e2 t3 hC hX) ?_
  intro v μ ⟨h1, M', h2, h3, h4⟩
  have hk : ∀ a k, ¬ RCH x r a k → M' a k = M a k := fun a k z => h4 a k (fun e => z (by unfold RCH; omega))
  exact ⟨h1, M', h2, ⟨q1.keep hk, e2, by omega, (h4 _ _ (by omega)).trans q4, fun k hk => (h4 _ _ (by omega)).trans (q5 k hk), (h4 _ _ (by omega)).trans q6, h3⟩, hk⟩
theorem kc_emitT {i : Nat} {cs : List Int32} {op : Int32} (h : ROK x r b m cs i P M) (hk0 : (tok b m i).1 ≠ 0) (hC : CWT x S P) (hX : HSC x sc) : KK G sc yX9_emit cX9_emit 2 none 1 0 0 [.ref (x + 2), .int op] (n, S, M, L, P) (fun v μ => v = none ∧ ∃ M', μ = (n, S, M', L, P) ∧ ROK1 x r b m (cs ++ [op]) i P M' ∧ ∀ a k, ¬ RCH x r a k → M' a k = M a k) := by
  obtain ⟨q1, q2, q3, q4, q5, q6, t5, t4, t3, t6⟩ := h
  have hr := q1.1
  have hm := q1.2.1
  obtain ⟨e1, e2⟩ := tk_e hk0
  refine KK_mono (kc_emit hr q1.2.2.2.2 q4 (by omega) hC hX) ?_
  intro v μ ⟨h1, h2⟩
  have e : ∀ a k, ¬ (a = x + 10 + 5 * r ∧ k = 5) → ¬ (a = x + 10 + 5 * r + 1 ∧ k = cs.length) → up2 (up2 M (x + 10 + 5 * r + 1) cs.length op) (x + 10 + 5 * r) 5 (nI (cs.length + 1)) a k = M a k := fun a k z1 z2 => (up2_n z1).trans (up2_n z2)
  have hk : ∀ a k, ¬ RCH x r a k → up2 (up2 M (x + 10 + 5 * r + 1) cs.length op) (x + 10 + 5 * r) 5 (nI (cs.length + 1)) a k = M a k := fun a k z => e a k (fun y => z (by unfold RCH; omega)) (fun y => z (by unfold RCH; omega))
  refine ⟨h1, _, h2, ⟨q1.keep hk, q2, by simp only [List.length_append, List.length_cons, List.length_nil]; omega, up2_s.trans (by simp only [List.length_append, List.length_cons, List.length_nil]), fun k hk2 => ?_, (e _ _ (by omega) (by omega)).trans q6, (e _ _ (by omega) (by omega)).trans t5, (e _ _ (by omega) (by omega)).trans t4, (e _ _ (by omega) (by omega)).trans t3, fun z => (e _ _ (by omega) (by omega)).trans (t6 z)⟩, hk⟩
  simp only [List.length_append, List.length_cons, List.length_nil] at hk2
  by_cases ek : k = cs.length
  · rw [ek, up2_n (by omega), up2_s, List.getD_eq_getElem?_getD, List.getElem?_append_right (Nat.le_refl _), Nat.sub_self]
    rfl
  · rw [e _ _ (by omega) (by omega), q5 k (by omega), List.getD_eq_getElem?_getD, List.getD_eq_getElem?_getD, List.getElem?_append_left (by omega)]
set_option maxHeartbeats 4000000 in
set_option maxRecDepth 100000 in
theorem kc_readOne {d d1 de o : Nat} {can : Bool} {o1 e1 : PF} (hn : can = true → o < 5 ∧ GD m o1 ∧ RS G sc n S x r b m d1 yX9_readOne cX9_readOne 2 (nI (o + 1)) o1 ∧ GD m e1 ∧ RS G sc n S x r b m de yX9_readEither cX9_readEither 3 (nI (o + 1)) e1) (hf : ¬ can = true → o = 5) (hd1 : d1 < d) (hd2 : de < d) (hd3 : 9 < d) : RS G sc n S x r b m d yX9_readOne cX9_readOne 2 (nI o) (gOne b m can o1 e1) := by
  intro cs i M L P h hC hX
  have hi := h.2.1
  have hl0 := h.2.2.1
  by_cases h1 : (tok b m i).1 = 1
  · skip
    have e0 : gOne b m can o1 e1 i = .inr ([(tok b m i).2.1], fun _ => (tok b m i).2.1, (tok b m i).2.2.2) := if_pos h1
    rw [e0]
    refine KK_of2 [(0, .ref (x + 2)), (1, .int (nI o))] (by decide +kernel) (Nat.le_of_ble_eq_true rfl) rfl ?_
    refine JJ_aload_n dX9_readOne_0 rfl rfl ?_
    refine JJ_geti (v := (tok b m i).1) (cis := [9]) (k := 5) fa_X9_29 (by decide) (congrArg Prod.fst (hC.sh (t := 2) (k := 10) (m := 0) (by decide))) rfl (hX.1 _ _ (by omega) (by omega) (by omega)) h.2.2.2.2.2.2.1 dX9_readOne_1 ?_
    refine JJ_iconst (v := 1) dX9_readOne_4 rfl ?_
    refine JJ_icmp_eq (tgt := 16) dX9_readOne_5 (by decide) (fun _ => ?_) (fun c1 => absurd h1 c1)
    refine JJ_aload_n dX9_readOne_16 rfl rfl ?_
    refine JJ_aload_n dX9_readOne_17 rfl rfl ?_
    refine JJ_geti (v := (tok b m i).2.1) (cis := [9]) (k := 6) fa_X9_32 (by decide) (congrArg Prod.fst (hC.sh (t := 2) (k := 10) (m := 0) (by decide))) rfl (hX.1 _ _ (by omega) (by omega) (by omega)) (h.2.2.2.2.2.2.2.2.2 (Or.inl h1)) dX9_readOne_18 ?_
    refine JJ_callV (rest := []) (congrArg Prod.fst (hC.sh (t := 2) (k := 10) (m := 0) (by decide))) rfl rfl (kc_emitT h (by rw [h1]; decide) hC hX) (by omega) mi_X9_emit lk_X9_78 rfl (Nat.le_of_ble_eq_true rfl) rfl rfl dX9_readOne_21 ?_
    intro v2 μ3 h4
    obtain ⟨rfl, My, rfl, hy, hky⟩ := h4
    refine JJ_r0 ?_
    refine JJ_aload_n dX9_readOne_24 rfl rfl ?_
    refine JJ_callV (rest := []) (congrArg Prod.fst (hC.sh (t := 2) (k := 10) (m := 0) (by decide))) rfl rfl (kc_nextT hy (by rw [h1]; decide) hC hX) (by omega) mi_X9_next lk_X9_57 rfl (Nat.le_of_ble_eq_true rfl) rfl rfl dX9_readOne_25 ?_
    intro v5 μ6 h7
    obtain ⟨rfl, Mz, rfl, hz, hkz⟩ := h7
    refine JJ_r0 ?_
    refine JJ_goto (tgt := 101) dX9_readOne_28 (by decide) ?_
    refine JJ_vret dX9_readOne_101 rfl ?_
    exact ⟨rfl, Mz, rfl, hz, (fun a k z => (hkz a k z).trans (hky a k z))⟩
  · skip
    by_cases h2 : (tok b m i).1 = 2
    · skip
      have e0 : gOne b m can o1 e1 i = .inr ([(tok b m i).2.1], fun nm => nm (-1 - (tok b m i).2.1).toNatClampNeg, (tok b m i).2.2.2) := (if_neg h1).trans (if_pos h2)
      rw [e0]
      refine KK_of2 [(0, .ref (x + 2)), (1, .int (nI o))] (by decide +kernel) (Nat.le_of_ble_eq_true rfl) rfl ?_
      refine JJ_aload_n dX9_readOne_0 rfl rfl ?_
      refine JJ_geti (v := (tok b m i).1) (cis := [9]) (k := 5) fa_X9_29 (by decide) (congrArg Prod.fst (hC.sh (t := 2) (k := 10) (m := 0) (by decide))) rfl (hX.1 _ _ (by omega) (by omega) (by omega)) h.2.2.2.2.2.2.1 dX9_readOne_1 ?_
      refine JJ_iconst (v := 1) dX9_readOne_4 rfl ?_
      refine JJ_icmp_eq (tgt := 16) dX9_readOne_5 (by decide) (fun c8 => absurd c8 h1) (fun _ => ?_)
      refine JJ_aload_n dX9_readOne_8 rfl rfl ?_
      refine JJ_geti (v := (tok b m i).1) (cis := [9]) (k := 5) fa_X9_29 (by decide) (congrArg Prod.fst (hC.sh (t := 2) (k := 10) (m := 0) (by decide))) rfl (hX.1 _ _ (by omega) (by omega) (by omega)) h.2.2.2.2.2.2.1 dX9_readOne_9 ?_
      refine JJ_iconst (v := 2) dX9_readOne_12 rfl ?_
      refine JJ_icmp_ne (tgt := 31) dX9_readOne_13 (by decide) (fun c9 => absurd h2 c9) (fun _ => ?_)
      refine JJ_aload_n dX9_readOne_16 rfl rfl ?_
      refine JJ_aload_n dX9_readOne_17 rfl rfl ?_
      refine JJ_geti (v := (tok b m i).2.1) (cis := [9]) (k := 6) fa_X9_32 (by decide) (congrArg Prod.fst (hC.sh (t := 2) (k := 10) (m := 0) (by decide))) rfl (hX.1 _ _ (by omega) (by omega) (by omega)) (h.2.2.2.2.2.2.2.2.2 (Or.inr h2)) dX9_readOne_18 ?_
      refine JJ_callV (rest := []) (congrArg Prod.fst (hC.sh (t := 2) (k := 10) (m := 0) (by decide))) rfl rfl (kc_emitT h (by rw [h2]; decide) hC hX) (by omega) mi_X9_emit lk_X9_78 rfl (Nat.le_of_ble_eq_true rfl) rfl rfl dX9_readOne_21 ?_
      intro v10 μ11 h12
      obtain ⟨rfl, My, rfl, hy, hky⟩ := h12
      refine JJ_r0 ?_
      refine JJ_aload_n dX9_readOne_24 rfl rfl ?_
      refine JJ_callV (rest := []) (congrArg Prod.fst (hC.sh (t := 2) (k := 10) (m := 0) (by decide))) rfl rfl (kc_nextT hy (by rw [h2]; decide) hC hX) (by omega) mi_X9_next lk_X9_57 rfl (Nat.le_of_ble_eq_true rfl) rfl rfl dX9_readOne_25 ?_
      intro v13 μ14 h15
      obtain ⟨rfl, Mz, rfl, hz, hkz⟩ := h15
      refine JJ_r0 ?_
      refine JJ_goto (tgt := 101) dX9_readOne_28 (by decide) ?_
      refine JJ_vret dX9_readOne_101 rfl ?_
      exact ⟨rfl, Mz, rfl, hz, (fun a k z => (hkz a k z).trans (hky a k z))⟩
    · skip
      by_cases h3 : (tok b m i).1 = 45
      · skip
        by_cases hcan : can = true
        · skip
          obtain ⟨ho, hg1, hs1, hge, hse⟩ := hn hcan
          obtain ⟨t1, t2⟩ := tk_e (b := b) (m := m) (i := i) (by rw [h3]; decide)
          have e0 : gOne b m can o1 e1 i = pBind (o1 (tok b m i).2.2.2) (fun c d j => .inr (c ++ [-8], fun nm => - d nm, j)) := (if_neg h1).trans ((if_neg h2).trans ((if_pos h3).trans (if_pos hcan)))
          rw [e0]
          refine KK_of2 [(0, .ref (x + 2)), (1, .int (nI o))] (by decide +kernel) (Nat.le_of_ble_eq_true rfl) rfl ?_
          refine JJ_aload_n dX9_readOne_0 rfl rfl ?_
          refine JJ_geti (v := (tok b m i).1) (cis := [9]) (k := 5) fa_X9_29 (by decide) (congrArg Prod.fst (hC.sh (t := 2) (k := 10) (m := 0) (by decide))) rfl (hX.1 _ _ (by omega) (by omega) (by omega)) h.2.2.2.2.2.2.1 dX9_readOne_1 ?_
          refine JJ_iconst (v := 1) dX9_readOne_4 rfl ?_
          refine JJ_icmp_eq (tgt := 16) dX9_readOne_5 (by decide) (fun c16 => absurd c16 h1) (fun _ => ?_)
          refine JJ_aload_n dX9_readOne_8 rfl rfl ?_
          refine JJ_geti (v := (tok b m i).1) (cis := [9]) (k := 5) fa_X9_29 (by decide) (congrArg Prod.fst (hC.sh (t := 2) (k := 10) (m := 0) (by decide))) rfl (hX.1 _ _ (by omega) (by omega) (by omega)) h.2.2.2.2.2.2.1 dX9_readOne_9 ?_
          refine JJ_iconst (v := 2) dX9_readOne_12 rfl ?_
          refine JJ_icmp_ne (tgt := 31) dX9_readOne_13 (by decide) (fun _ => ?_) (fun c17 => absurd c17 h2)
          refine JJ_aload_n dX9_readOne_31 rfl rfl ?_
          refine JJ_geti (v := (tok b m i).1) (cis := [9]) (k := 5) fa_X9_29 (by decide) (congrArg Prod.fst (hC.sh (t := 2) (k := 10) (m := 0) (by decide))) rfl (hX.1 _ _ (by omega) (by omega) (by omega)) h.2.2.2.2.2.2.1 dX9_readOne_32 ?_
          refine JJ_bipush (v := 45) dX9_readOne_35 rfl ?_
          refine JJ_icmp_ne (tgt := 64) dX9_readOne_37 (by decide) (fun c18 => absurd h3 c18) (fun _ => ?_)
          refine JJ_aload_n dX9_readOne_40 rfl rfl ?_
          refine JJ_iload_n dX9_readOne_41 rfl rfl ?_
          refine JJ_callV (rest := []) (congrArg Prod.fst (hC.sh (t := 2) (k := 10) (m := 0) (by decide))) rfl rfl (kc_opensY h ho (by rw [h3]; decide) hC hX) (by omega) mi_X9_opens lk_X9_84 rfl (Nat.le_of_ble_eq_true rfl) rfl rfl dX9_readOne_42 ?_
          intro v19 μ20 h21
          obtain ⟨rfl, My, rfl, hy, hky⟩ := h21
          refine JJ_r1 ?_
          refine JJ_if_eq (tgt := 101) dX9_readOne_45 (by decide) (fun c22 => absurd c22 (by decide)) (fun _ => ?_)
          refine JJ_aload_n dX9_readOne_48 rfl rfl ?_
          refine JJ_iload_n dX9_readOne_49 rfl rfl ?_
          refine JJ_iconst (v := 1) dX9_readOne_50 rfl ?_
          refine JJ_iadd dX9_readOne_51 ?_
          refine JJ_eqi (x2 := nI (o + 1)) (nI_add (o) (1)) ?_
          refine JJ_callV (rest := []) (congrArg Prod.fst (hC.sh (t := 2) (k := 10) (m := 0) (by decide))) rfl rfl (hs1 _ _ _ _ _ hy hC hX) (by omega) mi_X9_readOne lk_X9_93 rfl (Nat.le_of_ble_eq_true rfl) rfl rfl dX9_readOne_52 ?_
          intro v23 μ24 h25
          obtain ⟨rfl, Mz, rfl, hpz, hkz⟩ := h25
          refine JJ_r0 ?_
          rcases hq : o1 (tok b m i).2.2.2 with q | ⟨c, d0, j⟩
          · skip
            rw [hq] at hpz
            have hpz : RBAD x r b m q P Mz := hpz
            refine JJ_aload_n dX9_readOne_55 rfl rfl ?_
            refine JJ_bipush (v := (-8)) dX9_readOne_56 rfl ?_
            refine JJ_callV (rest := []) (congrArg Prod.fst (hC.sh (t := 2) (k := 10) (m := 0) (by decide))) rfl rfl (kc_emitB hpz hC hX) (by omega) mi_X9_emit lk_X9_78 rfl (Nat.le_of_ble_eq_true rfl) rfl rfl dX9_readOne_58 ?_
            intro v26 μ27 h28
            obtain ⟨rfl, Mw, rfl, hw, hkw⟩ := h28
            refine JJ_r0 ?_
            refine JJ_goto (tgt := 101) dX9_readOne_61 (by decide) ?_
            refine JJ_vret dX9_readOne_101 rfl ?_
            exact ⟨rfl, Mw, rfl, hw, (fun a k z => (hkw a k z).trans ((hkz a k z).trans (hky a k z)))⟩
          · skip
            rw [hq] at hpz
            have hpz : ROK x r b m (cs ++ c) j P Mz := hpz
            obtain ⟨k1, k2, k3, k4⟩ := hg1 _ _ _ _ t2 hq
            refine JJ_aload_n dX9_readOne_55 rfl rfl ?_
            refine JJ_bipush (v := (-8)) dX9_readOne_56 rfl ?_
            refine JJ_callV (rest := []) (congrArg Prod.fst (hC.sh (t := 2) (k := 10) (m := 0) (by decide))) rfl rfl (kc_emitG hpz (by simp only [List.length_append]; omega) hC hX) (by omega) mi_X9_emit lk_X9_78 rfl (Nat.le_of_ble_eq_true rfl) rfl rfl dX9_readOne_58 ?_
            intro v29 μ30 h31
            obtain ⟨rfl, Mw, rfl, hw, hkw⟩ := h31
            refine JJ_r0 ?_
            refine JJ_goto (tgt := 101) dX9_readOne_61 (by decide) ?_
            refine JJ_vret dX9_readOne_101 rfl ?_
            exact ⟨rfl, Mw, rfl, (by rw [List.append_assoc] at hw; exact hw : ROK x r b m (cs ++ (c ++ [-8])) j P Mw), (fun a k z => (hkw a k z).trans ((hkz a k z).trans (hky a k z)))⟩
        · skip
          obtain rfl := hf hcan
          have e0 : gOne b m can o1 e1 i = .inl (tok b m i).2.2.1 := (if_neg h1).trans ((if_neg h2).trans ((if_pos h3).trans (if_neg hcan)))
          rw [e0]
          refine KK_of2 [(0, .ref (x + 2)), (1, .int (nI 5))] (by decide +kernel) (Nat.le_of_ble_eq_true rfl) rfl ?_
          refine JJ_aload_n dX9_readOne_0 rfl rfl ?_
          refine JJ_geti (v := (tok b m i).1) (cis := [9]) (k := 5) fa_X9_29 (by decide) (congrArg Prod.fst (hC.sh (t := 2) (k := 10) (m := 0) (by decide))) rfl (hX.1 _ _ (by omega) (by omega) (by omega)) h.2.2.2.2.2.2.1 dX9_readOne_1 ?_
          refine JJ_iconst (v := 1) dX9_readOne_4 rfl ?_
          refine JJ_icmp_eq (tgt := 16) dX9_readOne_5 (by decide) (fun c32 => absurd c32 h1) (fun _ => ?_)
          refine JJ_aload_n dX9_readOne_8 rfl rfl ?_
          refine JJ_geti (v := (tok b m i).1) (cis := [9]) (k := 5) fa_X9_29 (by decide) (congrArg Prod.fst (hC.sh (t := 2) (k := 10) (m := 0) (by decide))) rfl (hX.1 _ _ (by omega) (by omega) (by omega)) h.2.2.2.2.2.2.1 dX9_readOne_9 ?_
          refine JJ_iconst (v := 2) dX9_readOne_12 rfl ?_
          refine JJ_icmp_ne (tgt := 31) dX9_readOne_13 (by decide) (fun _ => ?_) (fun c33 => absurd c33 h2)
          refine JJ_aload_n dX9_readOne_31 rfl rfl ?_
          refine JJ_geti (v := (tok b m i).1) (cis := [9]) (k := 5) fa_X9_29 (by decide) (congrArg Prod.fst (hC.sh (t := 2) (k := 10) (m := 0) (by decide))) rfl (hX.1 _ _ (by omega) (by omega) (by omega)) h.2.2.2.2.2.2.1 dX9_readOne_32 ?_
          refine JJ_bipush (v := 45) dX9_readOne_35 rfl ?_
          refine JJ_icmp_ne (tgt := 64) dX9_readOne_37 (by decide) (fun c34 => absurd h3 c34) (fun _ => ?_)
          refine JJ_aload_n dX9_readOne_40 rfl rfl ?_
          refine JJ_iload_n dX9_readOne_41 rfl rfl ?_
          refine JJ_callV (rest := []) (congrArg Prod.fst (hC.sh (t := 2) (k := 10) (m := 0) (by decide))) rfl rfl (kc_opensN h hC hX) (by omega) mi_X9_opens lk_X9_84 rfl (Nat.le_of_ble_eq_true rfl) rfl rfl dX9_readOne_42 ?_
          intro v35 μ36 h37
          obtain ⟨rfl, My, rfl, hy, hky⟩ := h37
          refine JJ_r1 ?_
          refine JJ_if_eq (tgt := 101) dX9_readOne_45 (by decide) (fun _ => ?_) (fun c38 => absurd (by decide) c38)
          refine JJ_vret dX9_readOne_101 rfl ?_
          exact ⟨rfl, My, rfl, hy, hky⟩
      · skip
        by_cases h4 : (tok b m i).1 = 40
        · skip
          by_cases hcan : can = true
          · skip
            obtain ⟨ho, hg1, hs1, hge, hse⟩ := hn hcan
            obtain ⟨t1, t2⟩ := tk_e (b := b) (m := m) (i := i) (by rw [h4]; decide)
            have e0 : gOne b m can o1 e1 i = pBind (e1 (tok b m i).2.2.2) (fun c d j => if (tok b m j).1 = 41 then .inr (c, d, (tok b m j).2.2.2) else .inl (tok b m j).2.2.1) := (if_neg h1).trans ((if_neg h2).trans ((if_neg h3).trans ((if_pos h4).trans (if_pos hcan))))
            rw [e0]
            refine KK_of2 [(0, .ref (x + 2)), (1, .int (nI o))] (by decide +kernel) (Nat.le_of_ble_eq_true rfl) rfl ?_
            refine JJ_aload_n dX9_readOne_0 rfl rfl ?_
            refine JJ_geti (v := (tok b m i).1) (cis := [9]) (k := 5) fa_X9_29 (by decide) (congrArg Prod.fst (hC.sh (t := 2) (k := 10) (m := 0) (by decide))) rfl (hX.1 _ _ (by omega) (by omega) (by omega)) h.2.2.2.2.2.2.1 dX9_readOne_1 ?_
            refine JJ_iconst (v := 1) dX9_readOne_4 rfl ?_
            refine JJ_icmp_eq (tgt := 16) dX9_readOne_5 (by decide) (fun c39 => absurd c39 h1) (fun _ => ?_)
            refine JJ_aload_n dX9_readOne_8 rfl rfl ?_
            refine JJ_geti (v := (tok b m i).1) (cis := [9]) (k := 5) fa_X9_29 (by decide) (congrArg Prod.fst (hC.sh (t := 2) (k := 10) (m := 0) (by decide))) rfl (hX.1 _ _ (by omega) (by omega) (by omega)) h.2.2.2.2.2.2.1 dX9_readOne_9 ?_
            refine JJ_iconst (v := 2) dX9_readOne_12 rfl ?_
            refine JJ_icmp_ne (tgt := 31) dX9_readOne_13 (by decide) (fun _ => ?_) (fun c40 => absurd c40 h2)
            refine JJ_aload_n dX9_readOne_31 rfl rfl ?_
            refine JJ_geti (v := (tok b m i).1) (cis := [9]) (k := 5) fa_X9_29 (by decide) (congrArg Prod.fst (hC.sh (t := 2) (k := 10) (m := 0) (by decide))) rfl (hX.1 _ _ (by omega) (by omega) (by omega)) h.2.2.2.2.2.2.1 dX9_readOne_32 ?_
            refine JJ_bipush (v := 45) dX9_readOne_35 rfl ?_
            refine JJ_icmp_ne (tgt := 64) dX9_readOne_37 (by decide) (fun _ => ?_) (fun c41 => absurd c41 h3)
            refine JJ_aload_n dX9_readOne_64 rfl rfl ?_
            refine JJ_geti (v := (tok b m i).1) (cis := [9]) (k := 5) fa_X9_29 (by decide) (congrArg Prod.fst (hC.sh (t := 2) (k := 10) (m := 0) (by decide))) rfl (hX.1 _ _ (by omega) (by omega) (by omega)) h.2.2.2.2.2.2.1 dX9_readOne_65 ?_
            refine JJ_bipush (v := 40) dX9_readOne_68 rfl ?_
            refine JJ_icmp_ne (tgt := 97) dX9_readOne_70 (by decide) (fun c42 => absurd h4 c42) (fun _ => ?_)
            refine JJ_aload_n dX9_readOne_73 rfl rfl ?_
            refine JJ_iload_n dX9_readOne_74 rfl rfl ?_
            refine JJ_callV (rest := []) (congrArg Prod.fst (hC.sh (t := 2) (k := 10) (m := 0) (by decide))) rfl rfl (kc_opensY h ho (by rw [h4]; decide) hC hX) (by omega) mi_X9_opens lk_X9_84 rfl (Nat.le_of_ble_eq_true rfl) rfl rfl dX9_readOne_75 ?_
            intro v43 μ44 h45
            obtain ⟨rfl, My, rfl, hy, hky⟩ := h45
            refine JJ_r1 ?_
            refine JJ_if_eq (tgt := 101) dX9_readOne_78 (by decide) (fun c46 => absurd c46 (by decide)) (fun _ => ?_)
            refine JJ_aload_n dX9_readOne_81 rfl rfl ?_
            refine JJ_iload_n dX9_readOne_82 rfl rfl ?_
            refine JJ_iconst (v := 1) dX9_readOne_83 rfl ?_
            refine JJ_iadd dX9_readOne_84 ?_
            refine JJ_eqi (x2 := nI (o + 1)) (nI_add (o) (1)) ?_
            refine JJ_callV (rest := []) (congrArg Prod.fst (hC.sh (t := 2) (k := 10) (m := 0) (by decide))) rfl rfl (hse _ _ _ _ _ hy hC hX) (by omega) mi_X9_readEither lk_X9_64 rfl (Nat.le_of_ble_eq_true rfl) rfl rfl dX9_readOne_85 ?_
            intro v47 μ48 h49
            obtain ⟨rfl, Mz, rfl, hpz, hkz⟩ := h49
            refine JJ_r0 ?_
            rcases hq : e1 (tok b m i).2.2.2 with q | ⟨c, d0, j⟩
            · skip
              rw [hq] at hpz
              have hpz : RBAD x r b m q P Mz := hpz
              refine JJ_aload_n dX9_readOne_88 rfl rfl ?_
              refine JJ_bipush (v := 41) dX9_readOne_89 rfl ?_
              refine JJ_callV (rest := []) (congrArg Prod.fst (hC.sh (t := 2) (k := 10) (m := 0) (by decide))) rfl rfl (kc_expectB hpz (by decide) hC hX) (by omega) mi_X9_expect lk_X9_60 rfl (Nat.le_of_ble_eq_true rfl) rfl rfl dX9_readOne_91 ?_
              intro v50 μ51 h52
              obtain ⟨rfl, Mw, rfl, hw, hkw⟩ := h52
              refine JJ_r0 ?_
              refine JJ_goto (tgt := 101) dX9_readOne_94 (by decide) ?_
              refine JJ_vret dX9_readOne_101 rfl ?_
              exact ⟨rfl, Mw, rfl, hw, (fun a k z => (hkw a k z).trans ((hkz a k z).trans (hky a k z)))⟩
            · skip
              rw [hq] at hpz
              have hpz : ROK x r b m (cs ++ c) j P Mz := hpz
              obtain ⟨k1, k2, k3, k4⟩ := hge _ _ _ _ t2 hq
              by_cases h41 : (tok b m j).1 = 41
              · skip
                refine JJ_aload_n dX9_readOne_88 rfl rfl ?_
                refine JJ_bipush (v := 41) dX9_readOne_89 rfl ?_
                refine JJ_callV (rest := []) (congrArg Prod.fst (hC.sh (t := 2) (k := 10) (m := 0) (by decide))) rfl rfl (kc_expectY hpz h41 (by decide) hC hX) (by omega) mi_X9_expect lk_X9_60 rfl (Nat.le_of_ble_eq_true rfl) rfl rfl dX9_readOne_91 ?_
                intro v53 μ54 h55
                obtain ⟨rfl, Mw, rfl, hw, hkw⟩ := h55
                refine JJ_r0 ?_
                refine JJ_goto (tgt := 101) dX9_readOne_94 (by decide) ?_
                refine JJ_vret dX9_readOne_101 rfl ?_
                refine ⟨rfl, Mw, rfl, ?_, (fun a k z => (hkw a k z).trans ((hkz a k z).trans (hky a k z)))⟩
                show RPO x r b m cs (if (tok b m j).1 = 41 then (.inr (c, d0, (tok b m j).2.2.2) : PR) else .inl (tok b m j).2.2.1) P Mw
                rw [if_pos h41]
                exact hw
              · skip
                refine JJ_aload_n dX9_readOne_88 rfl rfl ?_
                refine JJ_bipush (v := 41) dX9_readOne_89 rfl ?_
                refine JJ_callV (rest := []) (congrArg Prod.fst (hC.sh (t := 2) (k := 10) (m := 0) (by decide))) rfl rfl (kc_expectN hpz h41 hC hX) (by omega) mi_X9_expect lk_X9_60 rfl (Nat.le_of_ble_eq_true rfl) rfl rfl dX9_readOne_91 ?_
                intro v56 μ57 h58
                obtain ⟨rfl, Mw, rfl, hw, hkw⟩ := h58
                refine JJ_r0 ?_
                refine JJ_goto (tgt := 101) dX9_readOne_94 (by decide) ?_
                refine JJ_vret dX9_readOne_101 rfl ?_
                refine ⟨rfl, Mw, rfl, ?_, (fun a k z => (hkw a k z).trans ((hkz a k z).trans (hky a k z)))⟩
                show RPO x r b m cs (if (tok b m j).1 = 41 then (.inr (c, d0, (tok b m j).2.2.2) : PR) else .inl (tok b m j).2.2.1) P Mw
                rw [if_neg h41]
                exact hw
          · skip
            obtain rfl := hf hcan
            have e0 : gOne b m can o1 e1 i = .inl (tok b m i).2.2.1 := (if_neg h1).trans ((if_neg h2).trans ((if_neg h3).trans ((if_pos h4).trans (if_neg hcan))))
            rw [e0]
            refine KK_of2 [(0, .ref (x + 2)), (1, .int (nI 5))] (by decide +kernel) (Nat.le_of_ble_eq_true rfl) rfl ?_
            refine JJ_aload_n dX9_readOne_0 rfl rfl ?_
            refine JJ_geti (v := (tok b m i).1) (cis := [9]) (k := 5) fa_X9_29 (by decide) (congrArg Prod.fst (hC.sh (t := 2) (k := 10) (m := 0) (by decide))) rfl (hX.1 _ _ (by omega) (by omega) (by omega)) h.2.2.2.2.2.2.1 dX9_readOne_1 ?_
            refine JJ_iconst (v := 1) dX9_readOne_4 rfl ?_
            refine JJ_icmp_eq (tgt := 16) dX9_readOne_5 (by decide) (fun c59 => absurd c59 h1) (fun _ => ?_)
            refine JJ_aload_n dX9_readOne_8 rfl rfl ?_
            refine JJ_geti (v := (tok b m i).1) (cis := [9]) (k := 5) fa_X9_29 (by decide) (congrArg Prod.fst (hC.sh (t := 2) (k := 10) (m := 0) (by decide))) rfl (hX.1 _ _ (by omega) (by omega) (by omega)) h.2.2.2.2.2.2.1 dX9_readOne_9 ?_
            refine JJ_iconst (v := 2) dX9_readOne_12 rfl ?_
            refine JJ_icmp_ne (tgt := 31) dX9_readOne_13 (by decide) (fun _ => ?_) (fun c60 => absurd c60 h2)
            refine JJ_aload_n dX9_readOne_31 rfl rfl ?_
            refine JJ_geti (v := (tok b m i).1) (cis := [9]) (k := 5) fa_X9_29 (by decide) (congrArg Prod.fst (hC.sh (t := 2) (k := 10) (m := 0) (by decide))) rfl (hX.1 _ _ (by omega) (by omega) (by omega)) h.2.2.2.2.2.2.1 dX9_readOne_32 ?_
            refine JJ_bipush (v := 45) dX9_readOne_35 rfl ?_
            refine JJ_icmp_ne (tgt := 64) dX9_readOne_37 (by decide) (fun _ => ?_) (fun c61 => absurd c61 h3)
            refine JJ_aload_n dX9_readOne_64 rfl rfl ?_
            refine JJ_geti (v := (tok b m i).1) (cis := [9]) (k := 5) fa_X9_29 (by decide) (congrArg Prod.fst (hC.sh (t := 2) (k := 10) (m := 0) (by decide))) rfl (hX.1 _ _ (by omega) (by omega) (by omega)) h.2.2.2.2.2.2.1 dX9_readOne_65 ?_
            refine JJ_bipush (v := 40) dX9_readOne_68 rfl ?_
            refine JJ_icmp_ne (tgt := 97) dX9_readOne_70 (by decide) (fun c62 => absurd h4 c62) (fun _ => ?_)
            refine JJ_aload_n dX9_readOne_73 rfl rfl ?_
            refine JJ_iload_n dX9_readOne_74 rfl rfl ?_
            refine JJ_callV (rest := []) (congrArg Prod.fst (hC.sh (t := 2) (k := 10) (m := 0) (by decide))) rfl rfl (kc_opensN h hC hX) (by omega) mi_X9_opens lk_X9_84 rfl (Nat.le_of_ble_eq_true rfl) rfl rfl dX9_readOne_75 ?_
            intro v63 μ64 h65
            obtain ⟨rfl, My, rfl, hy, hky⟩ := h65
            refine JJ_r1 ?_
            refine JJ_if_eq (tgt := 101) dX9_readOne_78 (by decide) (fun _ => ?_) (fun c66 => absurd (by decide) c66)
            refine JJ_vret dX9_readOne_101 rfl ?_
            exact ⟨rfl, My, rfl, hy, hky⟩
        · skip
          have e0 : gOne b m can o1 e1 i = .inl (tok b m i).2.2.1 := (if_neg h1).trans ((if_neg h2).trans ((if_neg h3).trans (if_neg h4)))
          rw [e0]
          refine KK_of2 [(0, .ref (x + 2)), (1, .int (nI o))] (by decide +kernel) (Nat.le_of_ble_eq_true rfl) rfl ?_
          refine JJ_aload_n dX9_readOne_0 rfl rfl ?_
          refine JJ_geti (v := (tok b m i).1) (cis := [9]) (k := 5) fa_X9_29 (by decide) (congrArg Prod.fst (hC.sh (t := 2) (k := 10) (m := 0) (by decide))) rfl (hX.1 _ _ (by omega) (by omega) (by omega)) h.2.2.2.2.2.2.1 dX9_readOne_1 ?_
          refine JJ_iconst (v := 1) dX9_readOne_4 rfl ?_
          refine JJ_icmp_eq (tgt := 16) dX9_readOne_5 (by decide) (fun c67 => absurd c67 h1) (fun _ => ?_)
          refine JJ_aload_n dX9_readOne_8 rfl rfl ?_
          refine JJ_geti (v := (tok b m i).1) (cis := [9]) (k := 5) fa_X9_29 (by decide) (congrArg Prod.fst (hC.sh (t := 2) (k := 10) (m := 0) (by decide))) rfl (hX.1 _ _ (by omega) (by omega) (by omega)) h.2.2.2.2.2.2.1 dX9_readOne_9 ?_
          refine JJ_iconst (v := 2) dX9_readOne_12 rfl ?_
          refine JJ_icmp_ne (tgt := 31) dX9_readOne_13 (by decide) (fun _ => ?_) (fun c68 => absurd c68 h2)
          refine JJ_aload_n dX9_readOne_31 rfl rfl ?_
          refine JJ_geti (v := (tok b m i).1) (cis := [9]) (k := 5) fa_X9_29 (by decide) (congrArg Prod.fst (hC.sh (t := 2) (k := 10) (m := 0) (by decide))) rfl (hX.1 _ _ (by omega) (by omega) (by omega)) h.2.2.2.2.2.2.1 dX9_readOne_32 ?_
          refine JJ_bipush (v := 45) dX9_readOne_35 rfl ?_
          refine JJ_icmp_ne (tgt := 64) dX9_readOne_37 (by decide) (fun _ => ?_) (fun c69 => absurd c69 h3)
          refine JJ_aload_n dX9_readOne_64 rfl rfl ?_
          refine JJ_geti (v := (tok b m i).1) (cis := [9]) (k := 5) fa_X9_29 (by decide) (congrArg Prod.fst (hC.sh (t := 2) (k := 10) (m := 0) (by decide))) rfl (hX.1 _ _ (by omega) (by omega) (by omega)) h.2.2.2.2.2.2.1 dX9_readOne_65 ?_
          refine JJ_bipush (v := 40) dX9_readOne_68 rfl ?_
          refine JJ_icmp_ne (tgt := 97) dX9_readOne_70 (by decide) (fun _ => ?_) (fun c70 => absurd c70 h4)
          refine JJ_aload_n dX9_readOne_97 rfl rfl ?_
          refine JJ_callV (rest := []) (congrArg Prod.fst (hC.sh (t := 2) (k := 10) (m := 0) (by decide))) rfl rfl (kc_failG h hC hX) (by omega) mi_X9_fail lk_X9_70 rfl (Nat.le_of_ble_eq_true rfl) rfl rfl dX9_readOne_98 ?_
          intro v71 μ72 h73
          obtain ⟨rfl, My, rfl, hy, hky⟩ := h73
          refine JJ_r0 ?_
          refine JJ_vret dX9_readOne_101 rfl ?_
          exact ⟨rfl, My, rfl, hy, hky⟩
end C35
