section C16
variable {G : Gx} {sc : Nat → Nat → Prop} {n : Nat} {S : Nat → Nat × Nat} {M : Nat → Nat → Int32} {L : Nat → Nat → Int64} {P : Nat → Nat → Option Nat} {x : Nat} {A B : Abs}

theorem far_ovk : ∀ f, f < 25 → ∀ t, t < 25 → s_far (nI f) (nI t) = nI (ovk (f % 5) (f / 5) (t % 5) (t / 5)) := by decide +kernel
theorem stp_cmp : ∀ v, v < 5 → ∀ u, u < 5 → nI v + s_cmp (nI u) (nI v) = nI (stp v u) := by decide +kernel
theorem ovk_lt {f t : Nat} (hf : f < 25) (ht : t < 25) : ovk (f % 5) (f / 5) (t % 5) (t / 5) < 5 := by
  unfold ovk
  omega
theorem nI_m1 {k : Nat} : nI (k + 1) + (-1) = nI k := by
  rw [show nI (k + 1) = nI k + 1 from (nI_add k 1).symm, Int32.add_assoc]
  exact Int32.add_zero _
set_option maxHeartbeats 4000000 in
set_option maxRecDepth 100000 in
theorem kc_goesOver {f t : Nat} {c0 : Int32} (hf : f < 25) (ht : t < 25) : KK G sc yX11_goesOver cX11_goesOver 6 (some .boolean) 1 0 0 [.int (nI f), .int (nI t), .int c0] (n, S, M, L, P) (ansI (b2 (ov (t % 5) (t / 5) c0 (ovk (f % 5) (f / 5) (t % 5) (t / 5)) (f % 5) (f / 5) = true)) (n, S, M, L, P)) := by
  refine KK_of2 [(0, .int (nI f)), (1, .int (nI t)), (2, .int c0)] (by decide +kernel) (Nat.le_of_ble_eq_true rfl) rfl ?_
  refine JJ_iload_n dX11_goesOver_0 rfl rfl ?_
  refine JJ_iconst (v := 5) dX11_goesOver_1 rfl ?_
  refine JJ_irem dX11_goesOver_2 (by decide) ?_
  refine JJ_eqi (x2 := nI (f % 5)) (pk_rem (a := f) (d := 5) (by omega) (by decide) (by decide)) ?_
  refine JJ_istore_n (lv' := [(3, .int (nI (f % 5))), (0, .int (nI f)), (1, .int (nI t)), (2, .int c0)]) dX11_goesOver_3 rfl (by decide) rfl ?_
  refine JJ_iload_n dX11_goesOver_4 rfl rfl ?_
  refine JJ_iconst (v := 5) dX11_goesOver_5 rfl ?_
  refine JJ_idiv dX11_goesOver_6 (by decide) ?_
  refine JJ_eqi (x2 := nI (f / 5)) (pk_div (a := f) (d := 5) (by omega) (by decide) (by decide)) ?_
  refine JJ_istore (lv' := [(4, .int (nI (f / 5))), (3, .int (nI (f % 5))), (0, .int (nI f)), (1, .int (nI t)), (2, .int c0)]) dX11_goesOver_7 (by decide) rfl ?_
  refine JJ_iload_n dX11_goesOver_9 rfl rfl ?_
  refine JJ_iload_n dX11_goesOver_10 rfl rfl ?_
  refine JJ_callS (rest := []) (kc_apart) (by omega) mi_X11_apart lk_X11_214 rfl (Nat.le_of_ble_eq_true rfl) rfl rfl dX11_goesOver_11 ?_
  intro v1 μ2 h3
  obtain ⟨rfl, rfl⟩ := h3
  refine JJ_r1 ?_
  refine JJ_eqi (x2 := nI (ovk (f % 5) (f / 5) (t % 5) (t / 5))) (far_ovk f hf t ht) ?_
  refine JJ_istore (lv' := [(5, .int (nI (ovk (f % 5) (f / 5) (t % 5) (t / 5)))), (4, .int (nI (f / 5))), (3, .int (nI (f % 5))), (0, .int (nI f)), (1, .int (nI t)), (2, .int c0)]) dX11_goesOver_14 (by decide) rfl ?_
  have key : ∀ (k X Y : Nat), k < 1000 → X < 5 → Y < 5 → ov (t % 5) (t / 5) c0 k X Y = ov (t % 5) (t / 5) c0 (ovk (f % 5) (f / 5) (t % 5) (t / 5)) (f % 5) (f / 5) → JJ G sc yX11_goesOver cX11_goesOver 6 (some .boolean) 1 0 0 (ansI (b2 (ov (t % 5) (t / 5) c0 (ovk (f % 5) (f / 5) (t % 5) (t / 5)) (f % 5) (f / 5) = true)) (n, S, M, L, P)) 16 [(5, .int (nI k)), (4, .int (nI Y)), (3, .int (nI X)), (0, .int (nI f)), (1, .int (nI t)), (2, .int c0)] [] (n, S, M, L, P) := by
    intro k
    induction k with
    | zero =>
      intro X Y hk hX hY hv
      refine JJ_iload dX11_goesOver_16 rfl ?_
      refine JJ_if_le (tgt := 62) dX11_goesOver_18 (by decide) (fun _ => ?_) (fun c4 => absurd (by decide) c4)
      refine JJ_iconst (v := 0) dX11_goesOver_62 rfl ?_
      refine JJ_zret dX11_goesOver_63 rfl (Or.inl rfl) ?_
      exact ans_i (b2_f (fun z => by rw [← hv] at z; exact Bool.noConfusion z)).symm
    | succ k ih =>
      intro X Y hk hX hY hv
      have hX2 : stp X (t % 5) < 5 := stp_lt hX (by omega)
      have hY2 : stp Y (t / 5) < 5 := stp_lt hY (by omega)
      have hov : ov (t % 5) (t / 5) c0 (k + 1) X Y = (decide (nI (5 * stp Y (t / 5) + stp X (t % 5)) = c0) || ov (t % 5) (t / 5) c0 k (stp X (t % 5)) (stp Y (t / 5))) := rfl
      refine JJ_iload dX11_goesOver_16 rfl ?_
      refine JJ_if_le (tgt := 62) dX11_goesOver_18 (by decide) (fun c5 => absurd c5 (fun e => absurd ((nI_leI (a := k + 1) (b := 0) (by omega) (by omega)).mp e) (by omega))) (fun _ => ?_)
      refine JJ_iload_n dX11_goesOver_21 rfl rfl ?_
      refine JJ_iload_n dX11_goesOver_22 rfl rfl ?_
      refine JJ_iconst (v := 5) dX11_goesOver_23 rfl ?_
      refine JJ_irem dX11_goesOver_24 (by decide) ?_
      refine JJ_eqi (x2 := nI (t % 5)) (pk_rem (a := t) (d := 5) (by omega) (by decide) (by decide)) ?_
      refine JJ_iload_n dX11_goesOver_25 rfl rfl ?_
      refine JJ_callS (rest := [.int (nI X)]) (kc_cmp) (by omega) mi_J6_compare_7cf53 lk_X11_316 rfl (Nat.le_of_ble_eq_true rfl) rfl rfl dX11_goesOver_26 ?_
      intro v6 μ7 h8
      obtain ⟨rfl, rfl⟩ := h8
      refine JJ_r1 ?_
      refine JJ_iadd dX11_goesOver_29 ?_
      refine JJ_eqi (x2 := nI (stp X (t % 5))) (stp_cmp X hX (t % 5) (by omega)) ?_
      refine JJ_istore_n (lv' := [(3, .int (nI (stp X (t % 5)))), (5, .int (nI (k + 1))), (4, .int (nI Y)), (0, .int (nI f)), (1, .int (nI t)), (2, .int c0)]) dX11_goesOver_30 rfl (by decide) rfl ?_
      refine JJ_iload dX11_goesOver_31 rfl ?_
      refine JJ_iload_n dX11_goesOver_33 rfl rfl ?_
      refine JJ_iconst (v := 5) dX11_goesOver_34 rfl ?_
      refine JJ_idiv dX11_goesOver_35 (by decide) ?_
      refine JJ_eqi (x2 := nI (t / 5)) (pk_div (a := t) (d := 5) (by omega) (by decide) (by decide)) ?_
      refine JJ_iload dX11_goesOver_36 rfl ?_
      refine JJ_callS (rest := [.int (nI Y)]) (kc_cmp) (by omega) mi_J6_compare_7cf53 lk_X11_316 rfl (Nat.le_of_ble_eq_true rfl) rfl rfl dX11_goesOver_38 ?_
      intro v9 μ10 h11
      obtain ⟨rfl, rfl⟩ := h11
      refine JJ_r1 ?_
      refine JJ_iadd dX11_goesOver_41 ?_
      refine JJ_eqi (x2 := nI (stp Y (t / 5))) (stp_cmp Y hY (t / 5) (by omega)) ?_
      refine JJ_istore (lv' := [(4, .int (nI (stp Y (t / 5)))), (3, .int (nI (stp X (t % 5)))), (5, .int (nI (k + 1))), (0, .int (nI f)), (1, .int (nI t)), (2, .int c0)]) dX11_goesOver_42 (by decide) rfl ?_
      refine JJ_iload dX11_goesOver_44 rfl ?_
      refine JJ_iconst (v := 5) dX11_goesOver_46 rfl ?_
      refine JJ_imul dX11_goesOver_47 ?_
      refine JJ_eqi (x2 := nI ((stp Y (t / 5)) * 5)) (pk_mul (stp Y (t / 5)) (5)) ?_
      refine JJ_iload_n dX11_goesOver_48 rfl rfl ?_
      refine JJ_iadd dX11_goesOver_49 ?_
      refine JJ_eqi (x2 := nI ((stp Y (t / 5)) * 5 + stp X (t % 5))) (nI_add ((stp Y (t / 5)) * 5) (stp X (t % 5))) ?_
      refine JJ_iload_n dX11_goesOver_50 rfl rfl ?_
      refine JJ_icmp_ne (tgt := 56) dX11_goesOver_51 (by decide) (fun c12 => ?_) (fun c12 => ?_)
      · skip
        refine JJ_iinc (v := (nI (k + 1)) + (-1)) (lv' := [(5, .int ((nI (k + 1)) + (-1))), (4, .int (nI (stp Y (t / 5)))), (3, .int (nI (stp X (t % 5)))), (0, .int (nI f)), (1, .int (nI t)), (2, .int c0)]) dX11_goesOver_56 rfl rfl (by decide) rfl ?_
        refine JJ_goto (tgt := 16) dX11_goesOver_59 (by decide) ?_
        refine JJ.pick [0, 1, 2, 3, 4, 5] rfl ?_
        rw [show nI (k + 1) + (-1) = nI k from nI_m1]
        exact ih (stp X (t % 5)) (stp Y (t / 5)) (by omega) hX2 hY2 (by rw [← hv, hov, show decide (nI (5 * stp Y (t / 5) + stp X (t % 5)) = c0) = false from decide_eq_false (by rw [Nat.mul_comm]; exact c12), Bool.false_or])
      · skip
        refine JJ_iconst (v := 1) dX11_goesOver_54 rfl ?_
        refine JJ_zret dX11_goesOver_55 rfl (Or.inr rfl) ?_
        exact ans_i (b2_t (by rw [← hv, hov, show (nI (5 * stp Y (t / 5) + stp X (t % 5)) = c0) from by rw [← c12, Nat.mul_comm]]; simp)).symm
  refine JJ.pick [0, 1, 2, 3, 4, 5] rfl ?_
  exact key (ovk (f % 5) (f / 5) (t % 5) (t / 5)) (f % 5) (f / 5) (by have := ovk_lt hf ht; omega) (by omega) (by omega) rfl
set_option maxHeartbeats 4000000 in
set_option maxRecDepth 100000 in
theorem kc_isMissing {s : Nat} (hs : s < 4) (hC : CWF x S P) (hX : HSC x sc) : KK G sc yX7_isMissing cX7_isMissing 1 (some .boolean) 0 0 0 [.ref (x + 67 + 2 * s)] (n, S, M, L, P) (ansI (b2 (M (x + 67 + 2 * s) 1 = -1)) (n, S, M, L, P)) := by
  refine KK_of2 [(0, .ref (x + 67 + 2 * s))] (by decide +kernel) (Nat.le_of_ble_eq_true rfl) rfl ?_
  refine JJ_aload_n dX7_isMissing_0 rfl rfl ?_
  refine JJ_geti (v := M (x + 67 + 2 * s) 1) (cis := [7]) (k := 1) fa_X7_15 (by decide) (congrArg Prod.fst (hC.2.2.2.2 s hs).1) rfl (hX.1 _ _ (by omega) (by omega) (by omega)) rfl dX7_isMissing_1 ?_
  refine JJ_iconst (v := (-1)) dX7_isMissing_4 rfl ?_
  refine JJ_icmp_ne (tgt := 12) dX7_isMissing_5 (by decide) (fun c1 => ?_) (fun c1 => ?_)
  · skip
    refine JJ_iconst (v := 0) dX7_isMissing_12 rfl ?_
    refine JJ_zret dX7_isMissing_13 rfl (Or.inl rfl) ?_
    exact ans_i (b2_f c1).symm
  · skip
    refine JJ_iconst (v := 1) dX7_isMissing_8 rfl ?_
    refine JJ_goto (tgt := 13) dX7_isMissing_9 (by decide) ?_
    refine JJ_zret dX7_isMissing_13 rfl (Or.inr rfl) ?_
    exact ans_i (b2_t c1).symm
set_option maxHeartbeats 4000000 in
set_option maxRecDepth 100000 in
theorem kc_item {s N j : Nat} (hN : M (x + 67 + 2 * s) 2 = nI N) (hN4 : N ≤ 40) (hj : j < N) (hs : s < 4) (hC : CWF x S P) (hX : HSC x sc) : KK G sc yX7_item cX7_item 2 (some .int) 0 0 0 [.ref (x + 67 + 2 * s), .int (nI j)] (n, S, M, L, P) (ansI (M (x + 67 + 2 * s + 1) j) (n, S, M, L, P)) := by
  refine KK_of2 [(0, .ref (x + 67 + 2 * s)), (1, .int (nI j))] (by decide +kernel) (Nat.le_of_ble_eq_true rfl) rfl ?_
  refine JJ_iload_n dX7_item_0 rfl rfl ?_
  refine JJ_if_lt (tgt := 21) dX7_item_1 (by decide) (fun c1 => absurd c1 (nI_nn (by omega))) (fun _ => ?_)
  refine JJ_iload_n dX7_item_4 rfl rfl ?_
  refine JJ_aload_n dX7_item_5 rfl rfl ?_
  refine JJ_geti (v := nI N) (cis := [7]) (k := 2) fa_X7_19 (by decide) (congrArg Prod.fst (hC.2.2.2.2 s hs).1) rfl (hX.1 _ _ (by omega) (by omega) (by omega)) hN dX7_item_6 ?_
  refine JJ_icmp_ge (tgt := 21) dX7_item_9 (by decide) (fun c2 => absurd c2 (nI_ge (by omega) (by omega))) (fun _ => ?_)
  refine JJ_iload_n dX7_item_12 rfl rfl ?_
  refine JJ_aload_n dX7_item_13 rfl rfl ?_
  refine JJ_getr (q := x + 67 + 2 * s + 1) (cis := [7]) (k := 0) fa_X7_9 (by decide) (congrArg Prod.fst (hC.2.2.2.2 s hs).1) rfl (hC.2.2.2.2 s hs).2.2 dX7_item_14 ?_
  refine JJ_alen (t := 0) (hC.2.2.2.2 s hs).2.1 (by decide) dX7_item_17 ?_
  refine JJ_icmp_lt (tgt := 25) dX7_item_18 (by decide) (fun _ => ?_) (fun c3 => absurd (nI_lt1 (by omega) (by omega)) c3)
  refine JJ_aload_n dX7_item_25 rfl rfl ?_
  refine JJ_getr (q := x + 67 + 2 * s + 1) (cis := [7]) (k := 0) fa_X7_9 (by decide) (congrArg Prod.fst (hC.2.2.2.2 s hs).1) rfl (hC.2.2.2.2 s hs).2.2 dX7_item_26 ?_
  refine JJ_iload_n dX7_item_29 rfl rfl ?_
  refine JJ_ialdX (v := M (x + 67 + 2 * s + 1) j) (hC.2.2.2.2 s hs).2.1 (IX_nI (by omega) (by omega)) (hX.1 _ _ (by omega) (by omega) (by omega)) rfl dX7_item_30 ?_
  refine JJ_iret dX7_item_31 rfl ?_
  exact ans_i rfl
/-- a sheet that is there -/
theorem sh_there {s : Nat} (hs : s < 4) (hg2 : RNG2 A) (hA : SHS x M A) (h : ¬ A.1 16 s = 0) : (∃ N, N ≤ 40 ∧ A.1 18 s = nI N ∧ M (x + 67 + 2 * s) 2 = nI N ∧ ∀ j, j < N → M (x + 67 + 2 * s + 1) j = A.1 (20 + s) j) ∧ M (x + 67 + 2 * s) 1 = A.1 17 s ∧ s_within2 0 2 (A.1 17 s) := by
  obtain ⟨h1, N, hN, eN⟩ := (hg2.1.2.2.2.2.1 s hs).resolve_left h
  obtain ⟨q1, q2⟩ := hA s hs
  rw [if_neg h] at q1
  obtain ⟨q3, q4⟩ := q2 h
  exact ⟨⟨N, hN, eN, q3.trans eN, fun j hj => q4 j (by rw [eN]; show j < (nI N).toNatClampNeg; rw [nI_clamp (by omega)]; exact hj)⟩, q1, hg2.2.2.2.2.2.1 s hs h1⟩
theorem so_n1 {v : Int32} (h : s_within2 0 2 v) : ¬ v = -1 := fun e => by
  rw [e] at h
  exact absurd h.1 (by decide)
theorem isSk_e {v : Int32} {cn : Nat} (hcA : A.1 8 0 = nI cn) (hc6 : cn ≤ 6) : isSk A v ↔ 0 ≤ v.toInt ∧ v.toInt < (A.1 8 0).toInt := by
  unfold isSk
  rw [hcA, cm1 (by omega), nI_toInt (by omega)]
  omega
set_option maxHeartbeats 4000000 in
set_option maxRecDepth 100000 in
theorem kc_refusal {s : Int32} (hA : cABS x n S P M A) (hg2 : RNG2 A) (hC : CWF x S P) (hX : HSC x sc) : KK G sc yX11_refusalOfRally cX11_refusalOfRally 4 (some .int) 2 0 0 [.ref x, .int s] (n, S, M, L, P) (ansI (z_rb A s) (n, S, M, L, P)) := by
  have hg : RNG A := hg2.1
  have hrl := (rul_lt hg).1
  obtain ⟨cn, hc6, hcA, hcZ⟩ := cnt_e hg
  have h6 := (rul_lt hg).2
  have hct := hA.1
  have hrt := hct.rt hg hA.2.2.1
  have hst := hA.2.2.2.1
  by_cases hs0 : isSh s
  · skip
    obtain ⟨k, hk3, rfl⟩ := n_of (m := 3) (by decide) hs0
    have hk : k < 4 := by omega
    by_cases h16 : A.1 16 k = 0
    · skip
      rw [show z_rb A (nI k) = -11 from rb_2 hk h16]
      have hso : M (x + 67 + 2 * k) 1 = -1 := ((hA.2.2.2.2.1 k hk).1).trans (if_pos h16)
      refine KK_of2 [(0, .ref x), (1, .int (nI k))] (by decide +kernel) (Nat.le_of_ble_eq_true rfl) rfl ?_
      refine JJ_aload_n dX11_refusalOfRally_0 rfl rfl ?_
      refine JJ_iload_n dX11_refusalOfRally_1 rfl rfl ?_
      refine JJ_callV (rest := []) (congrArg Prod.fst (hC.sh (t := 0) (k := 12) (m := 0) (by decide))) rfl rfl (kc_sheetAt hk hC hX) (by omega) mi_X11_sheetAt lk_X11_196 rfl (Nat.le_of_ble_eq_true rfl) rfl rfl dX11_refusalOfRally_2 ?_
      intro v1 μ2 h3
      obtain ⟨rfl, rfl⟩ := h3
      refine JJ_r1 ?_
      refine JJ_astore_n (lv' := [(2, .ref (x + 67 + 2 * k)), (0, .ref x), (1, .int (nI k))]) dX11_refusalOfRally_5 rfl (by decide) rfl ?_
      refine JJ_aload_n dX11_refusalOfRally_6 rfl rfl ?_
      refine JJ_ifnonnullR (tgt := 13) dX11_refusalOfRally_7 (by decide) ?_
      refine JJ_aload_n dX11_refusalOfRally_13 rfl rfl ?_
      refine JJ_callV (rest := []) (congrArg Prod.fst (hC.2.2.2.2 k hk).1) rfl rfl (kc_isMissing hk hC hX) (by omega) mi_X7_isMissing lk_X11_221 rfl (Nat.le_of_ble_eq_true rfl) rfl rfl dX11_refusalOfRally_14 ?_
      intro v4 μ5 h6
      obtain ⟨rfl, rfl⟩ := h6
      refine JJ_r1 ?_
      refine JJ_eqi (x2 := 1) (b2_t hso) ?_
      refine JJ_if_eq (tgt := 23) dX11_refusalOfRally_17 (by decide) (fun c7 => absurd c7 (by decide)) (fun _ => ?_)
      refine JJ_bipush (v := (-11)) dX11_refusalOfRally_20 rfl ?_
      refine JJ_iret dX11_refusalOfRally_22 rfl ?_
      exact ans_i rfl
    · skip
      obtain ⟨⟨N, hN4, eN, hMN, hMI⟩, hso, hsr⟩ := sh_there hk hg2 hA.2.2.2.2.1 h16
      refine KK_of2 [(0, .ref x), (1, .int (nI k))] (by decide +kernel) (Nat.le_of_ble_eq_true rfl) rfl ?_
      refine JJ_aload_n dX11_refusalOfRally_0 rfl rfl ?_
      refine JJ_iload_n dX11_refusalOfRally_1 rfl rfl ?_
      refine JJ_callV (rest := []) (congrArg Prod.fst (hC.sh (t := 0) (k := 12) (m := 0) (by decide))) rfl rfl (kc_sheetAt hk hC hX) (by omega) mi_X11_sheetAt lk_X11_196 rfl (Nat.le_of_ble_eq_true rfl) rfl rfl dX11_refusalOfRally_2 ?_
      intro v8 μ9 h10
      obtain ⟨rfl, rfl⟩ := h10
      refine JJ_r1 ?_
      refine JJ_astore_n (lv' := [(2, .ref (x + 67 + 2 * k)), (0, .ref x), (1, .int (nI k))]) dX11_refusalOfRally_5 rfl (by decide) rfl ?_
      refine JJ_aload_n dX11_refusalOfRally_6 rfl rfl ?_
      refine JJ_ifnonnullR (tgt := 13) dX11_refusalOfRally_7 (by decide) ?_
      refine JJ_aload_n dX11_refusalOfRally_13 rfl rfl ?_
      refine JJ_callV (rest := []) (congrArg Prod.fst (hC.2.2.2.2 k hk).1) rfl rfl (kc_isMissing hk hC hX) (by omega) mi_X7_isMissing lk_X11_221 rfl (Nat.le_of_ble_eq_true rfl) rfl rfl dX11_refusalOfRally_14 ?_
      intro v11 μ12 h13
      obtain ⟨rfl, rfl⟩ := h13
      refine JJ_r1 ?_
      refine JJ_eqi (x2 := 0) (b2_f (by rw [hso]; exact so_n1 hsr)) ?_
      refine JJ_if_eq (tgt := 23) dX11_refusalOfRally_17 (by decide) (fun _ => ?_) (fun c14 => absurd (by decide) c14)
      refine JJ_iconst (v := 0) dX11_refusalOfRally_23 rfl ?_
      refine JJ_istore_n (lv' := [(3, .int 0), (2, .ref (x + 67 + 2 * k)), (0, .ref x), (1, .int (nI k))]) dX11_refusalOfRally_24 rfl (by decide) rfl ?_
      have key : ∀ (d j : Nat), j + d = N → (∀ i, i < j → 0 ≤ (A.1 (20 + k) i).toInt ∧ (A.1 (20 + k) i).toInt < (A.1 8 0).toInt) → JJ G sc yX11_refusalOfRally cX11_refusalOfRally 4 (some .int) 2 0 0 (ansI (z_rb A (nI k)) (n, S, M, L, P)) 25 [(3, .int (nI j)), (2, .ref (x + 67 + 2 * k)), (0, .ref x), (1, .int (nI k))] [] (n, S, M, L, P) := by
        intro d
        induction d with
        | zero =>
          intro j hjd hall
          refine JJ_iload_n dX11_refusalOfRally_25 rfl rfl ?_
          refine JJ_aload_n dX11_refusalOfRally_26 rfl rfl ?_
          refine JJ_geti (v := nI N) (cis := [7]) (k := 2) fa_X11_225 (by decide) (congrArg Prod.fst (hC.2.2.2.2 k hk).1) rfl (hX.1 _ _ (by omega) (by omega) (by omega)) hMN dX11_refusalOfRally_27 ?_
          refine JJ_icmp_ge (tgt := 54) dX11_refusalOfRally_30 (by decide) (fun _ => ?_) (fun c15 => absurd (nI_le (by omega) (by omega)) c15)
          refine JJ_iconst (v := 0) dX11_refusalOfRally_54 rfl ?_
          refine JJ_iret dX11_refusalOfRally_55 rfl ?_
          exact ans_i (rb_3 hk h16 eN hN4 (fun i hi => hall i (by omega))).symm
        | succ d ih =>
          intro j hjd hall
          have hj : j < N := by omega
          by_cases hsk : isSk A (A.1 (20 + k) j)
          · skip
            obtain ⟨q, hq, eq⟩ := sk_lt hg hsk
            obtain ⟨a, ha, ha1, ha2, hskk⟩ := hst.at hq
            refine JJ_iload_n dX11_refusalOfRally_25 rfl rfl ?_
            refine JJ_aload_n dX11_refusalOfRally_26 rfl rfl ?_
            refine JJ_geti (v := nI N) (cis := [7]) (k := 2) fa_X11_225 (by decide) (congrArg Prod.fst (hC.2.2.2.2 k hk).1) rfl (hX.1 _ _ (by omega) (by omega) (by omega)) hMN dX11_refusalOfRally_27 ?_
            refine JJ_icmp_ge (tgt := 54) dX11_refusalOfRally_30 (by decide) (fun c16 => absurd c16 (nI_ge (by omega) (by omega))) (fun _ => ?_)
            refine JJ_aload_n dX11_refusalOfRally_33 rfl rfl ?_
            refine JJ_aload_n dX11_refusalOfRally_34 rfl rfl ?_
            refine JJ_iload_n dX11_refusalOfRally_35 rfl rfl ?_
            refine JJ_callV (rest := [.ref x]) (congrArg Prod.fst (hC.2.2.2.2 k hk).1) rfl rfl (kc_item hMN hN4 hj hk hC hX) (by omega) mi_X7_item lk_X11_277 rfl (Nat.le_of_ble_eq_true rfl) rfl rfl dX11_refusalOfRally_36 ?_
            intro v17 μ18 h19
            obtain ⟨rfl, rfl⟩ := h19
            refine JJ_r1 ?_
            refine JJ_eqi (x2 := A.1 (20 + k) j) (hMI j hj) ?_
            refine JJ_callV (rest := []) (congrArg Prod.fst (hC.sh (t := 0) (k := 12) (m := 0) (by decide))) rfl rfl ((eq ▸ kc_strokeAt hq ha hst hg hC hX : KK G sc yX11_strokeAt cX11_strokeAt 2 (some (.object "MiddleOfCourt$Stroke")) 0 0 0 [.ref x, .int (A.1 (20 + k) j)] (n, S, M, L, P) (ansR a (n, S, M, L, P)))) (by omega) mi_X11_strokeAt lk_X11_129 rfl (Nat.le_of_ble_eq_true rfl) rfl rfl dX11_refusalOfRally_39 ?_
            intro v20 μ21 h22
            obtain ⟨rfl, rfl⟩ := h22
            refine JJ_r1 ?_
            refine JJ_ifnonnullR (tgt := 48) dX11_refusalOfRally_42 (by decide) ?_
            refine JJ_iinc (v := nI (j + 1)) (lv' := [(3, .int (nI (j + 1))), (2, .ref (x + 67 + 2 * k)), (0, .ref x), (1, .int (nI k))]) dX11_refusalOfRally_48 rfl (nI_add (j) 1) (by decide) rfl ?_
            refine JJ_goto (tgt := 25) dX11_refusalOfRally_51 (by decide) ?_
            refine JJ.pick [0, 1, 2, 3] rfl ?_
            exact ih (j + 1) (by omega) (fun i hi => by
              rcases (by omega : i < j ∨ i = j) with y | rfl
              · exact hall i y
              · exact (isSk_e hcA hc6).mp hsk)
          · skip
            refine JJ_iload_n dX11_refusalOfRally_25 rfl rfl ?_
            refine JJ_aload_n dX11_refusalOfRally_26 rfl rfl ?_
            refine JJ_geti (v := nI N) (cis := [7]) (k := 2) fa_X11_225 (by decide) (congrArg Prod.fst (hC.2.2.2.2 k hk).1) rfl (hX.1 _ _ (by omega) (by omega) (by omega)) hMN dX11_refusalOfRally_27 ?_
            refine JJ_icmp_ge (tgt := 54) dX11_refusalOfRally_30 (by decide) (fun c23 => absurd c23 (nI_ge (by omega) (by omega))) (fun _ => ?_)
            refine JJ_aload_n dX11_refusalOfRally_33 rfl rfl ?_
            refine JJ_aload_n dX11_refusalOfRally_34 rfl rfl ?_
            refine JJ_iload_n dX11_refusalOfRally_35 rfl rfl ?_
            refine JJ_callV (rest := [.ref x]) (congrArg Prod.fst (hC.2.2.2.2 k hk).1) rfl rfl (kc_item hMN hN4 hj hk hC hX) (by omega) mi_X7_item lk_X11_277 rfl (Nat.le_of_ble_eq_true rfl) rfl rfl dX11_refusalOfRally_36 ?_
            intro v24 μ25 h26
            obtain ⟨rfl, rfl⟩ := h26
            refine JJ_r1 ?_
            refine JJ_eqi (x2 := A.1 (20 + k) j) (hMI j hj) ?_
            refine JJ_callV (rest := []) (congrArg Prod.fst (hC.sh (t := 0) (k := 12) (m := 0) (by decide))) rfl rfl (kc_strokeNo hsk hst hg hC hX) (by omega) mi_X11_strokeAt lk_X11_129 rfl (Nat.le_of_ble_eq_true rfl) rfl rfl dX11_refusalOfRally_39 ?_
            intro v27 μ28 h29
            obtain ⟨rfl, rfl⟩ := h29
            refine JJ_r1 ?_
            refine JJ_ifnonnullN dX11_refusalOfRally_42 ?_
            refine JJ_bipush (v := (-2)) dX11_refusalOfRally_45 rfl ?_
            refine JJ_iret dX11_refusalOfRally_47 rfl ?_
            exact ans_i (rb_4 (j := j) hk h16 eN hN4 hj (fun y => hsk ((isSk_e hcA hc6).mpr y))).symm
      refine JJ.pick [0, 1, 2, 3] rfl ?_
      exact key N 0 (by omega) (fun i hi => absurd hi (Nat.not_lt_zero _))
  · skip
    rw [show z_rb A s = -2 from rb_1 hs0]
    refine KK_of2 [(0, .ref x), (1, .int s)] (by decide +kernel) (Nat.le_of_ble_eq_true rfl) rfl ?_
    refine JJ_aload_n dX11_refusalOfRally_0 rfl rfl ?_
    refine JJ_iload_n dX11_refusalOfRally_1 rfl rfl ?_
    refine JJ_callV (rest := []) (congrArg Prod.fst (hC.sh (t := 0) (k := 12) (m := 0) (by decide))) rfl rfl (kc_sheetNo hs0 hC hX) (by omega) mi_X11_sheetAt lk_X11_196 rfl (Nat.le_of_ble_eq_true rfl) rfl rfl dX11_refusalOfRally_2 ?_
    intro v30 μ31 h32
    obtain ⟨rfl, rfl⟩ := h32
    refine JJ_r1 ?_
    refine JJ_astore_nN (lv' := [(2, .null), (0, .ref x), (1, .int s)]) dX11_refusalOfRally_5 rfl (by decide) rfl ?_
    refine JJ_aload_nN dX11_refusalOfRally_6 rfl rfl ?_
    refine JJ_ifnonnullN dX11_refusalOfRally_7 ?_
    refine JJ_bipush (v := (-2)) dX11_refusalOfRally_10 rfl ?_
    refine JJ_iret dX11_refusalOfRally_12 rfl ?_
    exact ans_i rfl
end C16
