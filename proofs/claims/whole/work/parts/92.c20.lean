section C20
variable {G : Gx} {sc : Nat → Nat → Prop} {n : Nat} {S : Nat → Nat × Nat} {M : Nat → Nat → Int32} {L : Nat → Nat → Int64} {P : Nat → Nat → Option Nat} {x : Nat} {A B : Abs}

set_option maxHeartbeats 4000000 in
set_option maxRecDepth 100000 in
theorem kc_holds {s N : Nat} {i nn : Int32} (hN : M (x + 67 + 2 * s) 2 = nI N) (hN4 : N ≤ 40) (hs : s < 4) (hC : CWF x S P) (hX : HSC x sc) : KK G sc yX7_holds cX7_holds 3 (some .boolean) 0 0 0 [.ref (x + 67 + 2 * s), .int i, .int nn] (n, S, M, L, P) (ansI (b2 (0 ≤ i.toInt ∧ 0 ≤ nn.toInt ∧ i.toInt + nn.toInt ≤ N)) (n, S, M, L, P)) := by
  have z0 : (0 : Int32).toInt = 0 := rfl
  have zN : (nI N).toInt = N := nI_toInt (by omega)
  refine KK_of2 [(0, .ref (x + 67 + 2 * s)), (1, .int i), (2, .int nn)] (by decide +kernel) (Nat.le_of_ble_eq_true rfl) rfl ?_
  refine JJ_iload_n dX7_holds_0 rfl rfl ?_
  refine JJ_if_lt (tgt := 30) dX7_holds_1 (by decide) (fun c1 => ?_) (fun c1 => ?_)
  · skip
    refine JJ_iconst (v := 0) dX7_holds_30 rfl ?_
    refine JJ_zret dX7_holds_31 rfl (Or.inl rfl) ?_
    have y1 := c1
    rw [i_lt] at y1
    exact ans_i (b2_f (by omega)).symm
  · skip
    refine JJ_iload_n dX7_holds_4 rfl rfl ?_
    refine JJ_if_lt (tgt := 30) dX7_holds_5 (by decide) (fun c2 => ?_) (fun c2 => ?_)
    · skip
      refine JJ_iconst (v := 0) dX7_holds_30 rfl ?_
      refine JJ_zret dX7_holds_31 rfl (Or.inl rfl) ?_
      have y1 := c1
      rw [i_lt] at y1
      have y5 := c2
      rw [i_lt] at y5
      exact ans_i (b2_f (by omega)).symm
    · skip
      refine JJ_iload_n dX7_holds_8 rfl rfl ?_
      refine JJ_aload_n dX7_holds_9 rfl rfl ?_
      refine JJ_geti (v := nI N) (cis := [7]) (k := 2) fa_X7_19 (by decide) (congrArg Prod.fst (hC.2.2.2.2 s hs).1) rfl (hX.1 _ _ (by omega) (by omega) (by omega)) hN dX7_holds_10 ?_
      refine JJ_icmp_gt (tgt := 30) dX7_holds_13 (by decide) (fun c3 => ?_) (fun c3 => ?_)
      · skip
        refine JJ_iconst (v := 0) dX7_holds_30 rfl ?_
        refine JJ_zret dX7_holds_31 rfl (Or.inl rfl) ?_
        have y1 := c1
        rw [i_lt] at y1
        have y5 := c2
        rw [i_lt] at y5
        have y13 := c3
        rw [i_lt] at y13
        exact ans_i (b2_f (by omega)).symm
      · skip
        refine JJ_iload_n dX7_holds_16 rfl rfl ?_
        refine JJ_aload_n dX7_holds_17 rfl rfl ?_
        refine JJ_geti (v := nI N) (cis := [7]) (k := 2) fa_X7_19 (by decide) (congrArg Prod.fst (hC.2.2.2.2 s hs).1) rfl (hX.1 _ _ (by omega) (by omega) (by omega)) hN dX7_holds_18 ?_
        refine JJ_iload_n dX7_holds_21 rfl rfl ?_
        refine JJ_isub dX7_holds_22 ?_
        refine JJ_icmp_gt (tgt := 30) dX7_holds_23 (by decide) (fun c4 => ?_) (fun c4 => ?_)
        · skip
          refine JJ_iconst (v := 0) dX7_holds_30 rfl ?_
          refine JJ_zret dX7_holds_31 rfl (Or.inl rfl) ?_
          have y1 := c1
          rw [i_lt] at y1
          have y5 := c2
          rw [i_lt] at y5
          have y13 := c3
          rw [i_lt] at y13
          have y23 := c4
          rw [i_lt] at y23
          obtain ⟨kx, e1, e2, e3⟩ := i_sub (nI N) nn
          exact ans_i (b2_f (by omega)).symm
        · skip
          refine JJ_iconst (v := 1) dX7_holds_26 rfl ?_
          refine JJ_goto (tgt := 31) dX7_holds_27 (by decide) ?_
          refine JJ_zret dX7_holds_31 rfl (Or.inr rfl) ?_
          have y1 := c1
          rw [i_lt] at y1
          have y5 := c2
          rw [i_lt] at y5
          have y13 := c3
          rw [i_lt] at y13
          have y23 := c4
          rw [i_lt] at y23
          obtain ⟨kx, e1, e2, e3⟩ := i_sub (nI N) nn
          exact ans_i (b2_t (by omega)).symm
theorem cABS_item {s j : Nat} {v : Int32} {M' : Nat → Nat → Int32} (hA : cABS x n S P M A) (h6 : i2n (A.1 10 0) ≤ 6) (hs : s < 4) (hM : M' = up2 M (x + 67 + 2 * s + 1) j v) : cABS x n S P M' (zUp A (20 + s) j v) := by
  have hk : ∀ b k, b ≠ x + 67 + 2 * s + 1 → M' b k = M b k := fun b k z => by rw [hM]; exact up2_n (by omega)
  have he : ∀ b k, ¬ (b = 20 + s ∧ k = j) → (zUp A (20 + s) j v).1 b k = A.1 b k := fun b k z => zUp_n z
  refine cABS_loc hA h6 (fun b k z1 z2 z3 z4 z5 => hk b k (by omega)) (fun b k z1 z2 z3 => he _ _ (by omega)) rfl ?_ ?_
  · intro t ht
    rw [he 16 t (by omega), he 17 t (by omega), he 18 t (by omega)]
    obtain ⟨q1, q2⟩ := hA.2.2.2.2.1 t ht
    refine ⟨(hk _ _ (by omega)).trans q1, fun z => ?_⟩
    obtain ⟨q3, q4⟩ := q2 z
    refine ⟨(hk _ _ (by omega)).trans q3, fun i hi => ?_⟩
    by_cases e : t = s ∧ i = j
    · obtain ⟨rfl, rfl⟩ := e
      rw [hM, up2_s]
      exact zUp_e.symm
    · rw [he (20 + t) i (by omega), hM, up2_n (by omega)]
      exact q4 i hi
  · have := hA.2.2.2.2.2.1.keep (M' := M') (hk _ _ (by omega)) (fun k => hk _ _ (by omega))
    unfold TPS at *
    rw [he 12 0 (by omega)]
    refine ⟨this.1, fun i hi => ?_⟩
    rw [he 11 i (by omega)]
    exact this.2 i hi
set_option maxHeartbeats 4000000 in
set_option maxRecDepth 100000 in
theorem kc_cell {s i v : Int32} (hA : cABS x n S P M A) (hg2 : RNG2 A) (hC : CWF x S P) (hX : HSC x sc) : KK G sc yX11_cell cX11_cell 5 (some .int) 3 0 0 [.ref x, .int s, .int i, .int v] (n, S, M, L, P) (cI x n S M P (.int (zr_cell A s i v).1) (zr_cell A s i v).2) := by
  have hg : RNG A := hg2.1
  have hrl := (rul_lt hg).1
  obtain ⟨cn, hc6, hcA, hcZ⟩ := cnt_e hg
  have h6 := (rul_lt hg).2
  have hct := hA.1
  have hrt := hct.rt hg hA.2.2.1
  have hst := hA.2.2.2.1
  by_cases hs0 : isSh s
  · skip
    obtain ⟨k, hk3, rfl⟩ := n_of (m := 3) (by decide) hs0
    have hk : k < 4 := by omega
    have hik : i2n (nI k) = k := nI_clamp (by omega)
    by_cases h16 : A.1 16 k = 0
    · skip
      have hso : M (x + 67 + 2 * k) 1 = -1 := ((hA.2.2.2.2.1 k hk).1).trans (if_pos h16)
      have e0 : zr_cell A (nI k) i v = (-11, A) := (if_neg (fun z => z hs0)).trans (if_pos (by rw [hik]; exact h16))
      rw [e0]
      refine KK_of2 [(0, .ref x), (1, .int (nI k)), (2, .int i), (3, .int v)] (by decide +kernel) (Nat.le_of_ble_eq_true rfl) rfl ?_
      refine JJ_aload_n dX11_cell_0 rfl rfl ?_
      refine JJ_iload_n dX11_cell_1 rfl rfl ?_
      refine JJ_callV (rest := []) (congrArg Prod.fst (hC.sh (t := 0) (k := 12) (m := 0) (by decide))) rfl rfl (kc_sheetAt hk hC hX) (by omega) mi_X11_sheetAt lk_X11_196 rfl (Nat.le_of_ble_eq_true rfl) rfl rfl dX11_cell_2 ?_
      intro v1 μ2 h3
      obtain ⟨rfl, rfl⟩ := h3
      refine JJ_r1 ?_
      refine JJ_astore (lv' := [(4, .ref (x + 67 + 2 * k)), (0, .ref x), (1, .int (nI k)), (2, .int i), (3, .int v)]) dX11_cell_5 (by decide) rfl ?_
      refine JJ_aload dX11_cell_7 rfl ?_
      refine JJ_ifnonnullR (tgt := 15) dX11_cell_9 (by decide) ?_
      refine JJ_aload dX11_cell_15 rfl ?_
      refine JJ_callV (rest := []) (congrArg Prod.fst (hC.2.2.2.2 k hk).1) rfl rfl (kc_isMissing hk hC hX) (by omega) mi_X7_isMissing lk_X11_221 rfl (Nat.le_of_ble_eq_true rfl) rfl rfl dX11_cell_17 ?_
      intro v4 μ5 h6
      obtain ⟨rfl, rfl⟩ := h6
      refine JJ_r1 ?_
      refine JJ_eqi (x2 := 1) (b2_t hso) ?_
      refine JJ_if_eq (tgt := 26) dX11_cell_20 (by decide) (fun c7 => absurd c7 (by decide)) (fun _ => ?_)
      refine JJ_bipush (v := (-11)) dX11_cell_23 rfl ?_
      refine JJ_iret dX11_cell_25 rfl ?_
      exact cI_q rfl hA hC
    · skip
      obtain ⟨⟨N, hN4, eN, hMN, hMI⟩, hso, hsr⟩ := sh_there hk hg2 hA.2.2.2.2.1 h16
      have hNm : (A.1 18 k - 1).toInt = N - 1 := by rw [eN]; exact cm1 (by omega)
      by_cases hi : 0 ≤ i.toInt ∧ i.toInt ≤ (A.1 18 k - 1).toInt
      · skip
        obtain ⟨j, hj, rfl⟩ : ∃ j, j < N ∧ i = nI j := ⟨i.toInt.toNat, by omega, by rw [i_eq, nI_toInt (by omega)]; omega⟩
        have e0 : zr_cell A (nI k) (nI j) v = (1, zUp A (20 + k) j (s_narrow (A.1 17 k) v)) := (if_neg (fun z => z hs0)).trans ((if_neg (by rw [hik]; exact h16)).trans ((if_neg (by rw [hik]; exact fun z => z hi)).trans (by rw [hik, show i2n (nI j) = j from nI_clamp (by omega)])))
        rw [e0]
        refine KK_of2 [(0, .ref x), (1, .int (nI k)), (2, .int (nI j)), (3, .int v)] (by decide +kernel) (Nat.le_of_ble_eq_true rfl) rfl ?_
        refine JJ_aload_n dX11_cell_0 rfl rfl ?_
        refine JJ_iload_n dX11_cell_1 rfl rfl ?_
        refine JJ_callV (rest := []) (congrArg Prod.fst (hC.sh (t := 0) (k := 12) (m := 0) (by decide))) rfl rfl (kc_sheetAt hk hC hX) (by omega) mi_X11_sheetAt lk_X11_196 rfl (Nat.le_of_ble_eq_true rfl) rfl rfl dX11_cell_2 ?_
        intro v8 μ9 h10
        obtain ⟨rfl, rfl⟩ := h10
        refine JJ_r1 ?_
        refine JJ_astore (lv' := [(4, .ref (x + 67 + 2 * k)), (0, .ref x), (1, .int (nI k)), (2, .int (nI j)), (3, .int v)]) dX11_cell_5 (by decide) rfl ?_
        refine JJ_aload dX11_cell_7 rfl ?_
        refine JJ_ifnonnullR (tgt := 15) dX11_cell_9 (by decide) ?_
        refine JJ_aload dX11_cell_15 rfl ?_
        refine JJ_callV (rest := []) (congrArg Prod.fst (hC.2.2.2.2 k hk).1) rfl rfl (kc_isMissing hk hC hX) (by omega) mi_X7_isMissing lk_X11_221 rfl (Nat.le_of_ble_eq_true rfl) rfl rfl dX11_cell_17 ?_
        intro v11 μ12 h13
        obtain ⟨rfl, rfl⟩ := h13
        refine JJ_r1 ?_
        refine JJ_eqi (x2 := 0) (b2_f (by rw [hso]; exact so_n1 hsr)) ?_
        refine JJ_if_eq (tgt := 26) dX11_cell_20 (by decide) (fun _ => ?_) (fun c14 => absurd (by decide) c14)
        refine JJ_aload dX11_cell_26 rfl ?_
        refine JJ_iload_n dX11_cell_28 rfl rfl ?_
        refine JJ_iconst (v := 1) dX11_cell_29 rfl ?_
        refine JJ_callV (rest := []) (congrArg Prod.fst (hC.2.2.2.2 k hk).1) rfl rfl (kc_holds hMN hN4 hk hC hX) (by omega) mi_X7_holds lk_X11_262 rfl (Nat.le_of_ble_eq_true rfl) rfl rfl dX11_cell_30 ?_
        intro v15 μ16 h17
        obtain ⟨rfl, rfl⟩ := h17
        refine JJ_r1 ?_
        refine JJ_eqi (x2 := 1) (b2_t (by rw [nI_toInt (by omega), show (1 : Int32).toInt = 1 from rfl]; omega)) ?_
        refine JJ_if_ne (tgt := 39) dX11_cell_33 (by decide) (fun _ => ?_) (fun c18 => absurd c18 (by decide))
        refine JJ_aload dX11_cell_39 rfl ?_
        refine JJ_iload_n dX11_cell_41 rfl rfl ?_
        refine JJ_iload_n dX11_cell_42 rfl rfl ?_
        refine JJ_callV (rest := []) (congrArg Prod.fst (hC.2.2.2.2 k hk).1) rfl rfl (kc_put hso hMN hN4 hj hk hC hX) (by omega) mi_X7_put lk_X11_242 rfl (Nat.le_of_ble_eq_true rfl) rfl rfl dX11_cell_43 ?_
        intro v19 μ20 h21
        obtain ⟨rfl, rfl⟩ := h21
        refine JJ_r0 ?_
        refine JJ_iconst (v := 1) dX11_cell_46 rfl ?_
        refine JJ_iret dX11_cell_47 rfl ?_
        exact cI_m rfl (cABS_item hA h6 hk rfl) hC (fun b k z => up2_n (fun e => z (by unfold cF; omega)))
      · skip
        have e0 : zr_cell A (nI k) i v = (-12, A) := (if_neg (fun z => z hs0)).trans ((if_neg (by rw [hik]; exact h16)).trans (if_pos (by rw [hik]; exact hi)))
        rw [e0]
        refine KK_of2 [(0, .ref x), (1, .int (nI k)), (2, .int i), (3, .int v)] (by decide +kernel) (Nat.le_of_ble_eq_true rfl) rfl ?_
        refine JJ_aload_n dX11_cell_0 rfl rfl ?_
        refine JJ_iload_n dX11_cell_1 rfl rfl ?_
        refine JJ_callV (rest := []) (congrArg Prod.fst (hC.sh (t := 0) (k := 12) (m := 0) (by decide))) rfl rfl (kc_sheetAt hk hC hX) (by omega) mi_X11_sheetAt lk_X11_196 rfl (Nat.le_of_ble_eq_true rfl) rfl rfl dX11_cell_2 ?_
        intro v22 μ23 h24
        obtain ⟨rfl, rfl⟩ := h24
        refine JJ_r1 ?_
        refine JJ_astore (lv' := [(4, .ref (x + 67 + 2 * k)), (0, .ref x), (1, .int (nI k)), (2, .int i), (3, .int v)]) dX11_cell_5 (by decide) rfl ?_
        refine JJ_aload dX11_cell_7 rfl ?_
        refine JJ_ifnonnullR (tgt := 15) dX11_cell_9 (by decide) ?_
        refine JJ_aload dX11_cell_15 rfl ?_
        refine JJ_callV (rest := []) (congrArg Prod.fst (hC.2.2.2.2 k hk).1) rfl rfl (kc_isMissing hk hC hX) (by omega) mi_X7_isMissing lk_X11_221 rfl (Nat.le_of_ble_eq_true rfl) rfl rfl dX11_cell_17 ?_
        intro v25 μ26 h27
        obtain ⟨rfl, rfl⟩ := h27
        refine JJ_r1 ?_
        refine JJ_eqi (x2 := 0) (b2_f (by rw [hso]; exact so_n1 hsr)) ?_
        refine JJ_if_eq (tgt := 26) dX11_cell_20 (by decide) (fun _ => ?_) (fun c28 => absurd (by decide) c28)
        refine JJ_aload dX11_cell_26 rfl ?_
        refine JJ_iload_n dX11_cell_28 rfl rfl ?_
        refine JJ_iconst (v := 1) dX11_cell_29 rfl ?_
        refine JJ_callV (rest := []) (congrArg Prod.fst (hC.2.2.2.2 k hk).1) rfl rfl (kc_holds hMN hN4 hk hC hX) (by omega) mi_X7_holds lk_X11_262 rfl (Nat.le_of_ble_eq_true rfl) rfl rfl dX11_cell_30 ?_
        intro v29 μ30 h31
        obtain ⟨rfl, rfl⟩ := h31
        refine JJ_r1 ?_
        refine JJ_eqi (x2 := 0) (b2_f (by rw [show (1 : Int32).toInt = 1 from rfl]; omega)) ?_
        refine JJ_if_ne (tgt := 39) dX11_cell_33 (by decide) (fun c32 => absurd (by decide) c32) (fun _ => ?_)
        refine JJ_bipush (v := (-12)) dX11_cell_36 rfl ?_
        refine JJ_iret dX11_cell_38 rfl ?_
        exact cI_q rfl hA hC
  · skip
    have e0 : zr_cell A s i v = (-2, A) := if_pos hs0
    rw [e0]
    refine KK_of2 [(0, .ref x), (1, .int s), (2, .int i), (3, .int v)] (by decide +kernel) (Nat.le_of_ble_eq_true rfl) rfl ?_
    refine JJ_aload_n dX11_cell_0 rfl rfl ?_
    refine JJ_iload_n dX11_cell_1 rfl rfl ?_
    refine JJ_callV (rest := []) (congrArg Prod.fst (hC.sh (t := 0) (k := 12) (m := 0) (by decide))) rfl rfl (kc_sheetNo hs0 hC hX) (by omega) mi_X11_sheetAt lk_X11_196 rfl (Nat.le_of_ble_eq_true rfl) rfl rfl dX11_cell_2 ?_
    intro v33 μ34 h35
    obtain ⟨rfl, rfl⟩ := h35
    refine JJ_r1 ?_
    refine JJ_astoreN (lv' := [(4, .null), (0, .ref x), (1, .int s), (2, .int i), (3, .int v)]) dX11_cell_5 (by decide) rfl ?_
    refine JJ_aloadN dX11_cell_7 rfl ?_
    refine JJ_ifnonnullN dX11_cell_9 ?_
    refine JJ_bipush (v := (-2)) dX11_cell_12 rfl ?_
    refine JJ_iret dX11_cell_14 rfl ?_
    exact cI_q rfl hA hC
theorem nar0 {v : Int32} (h : cv v) : s_narrow 0 v = v := by
  obtain ⟨c, hc, rfl⟩ := cv_nI h
  have : ∀ c, c < 25 → s_narrow 0 (nI c) = nI c := by decide +kernel
  exact this c hc
theorem cv_zto {s N j : Nat} (hg : RNG A) (h : RWY A s N) (hj : j < N) : cv (z_to A s j) := by
  obtain ⟨q, hq, eq⟩ := h.2.2 j hj
  obtain ⟨cn, hc6, hcA, hcZ⟩ := cnt_e hg
  rw [zto_st h hj eq (by omega)]
  exact cv_comes (hg.2.2.1 q (by omega))
theorem fin_le {s N : Nat} (h : RWY A s N) : (z_fin A s).1 ≤ N := by
  have h0 := sr_fin_le (E := zE A) (qk := zQ A) (hm := zH A) (kd := zKq A s) (nb := zNq A s) (am := zAq A s) (κ := zC A) (zN A s) 0
  rw [h.zn] at h0
  show (sr_fin _ _ _ _ _ _ _ (zN A s) 0).1 ≤ N
  rw [h.zn]
  omega
set_option maxHeartbeats 4000000 in
set_option maxRecDepth 100000 in
theorem kc_film {s r : Int32} (hA : cABS x n S P M A) (hg2 : RNG2 A) (hC : CWF x S P) (hX : HSC x sc) : KK G sc yX11_film cX11_film 6 (some .int) 11 0 0 [.ref x, .int s, .int r] (n, S, M, L, P) (cI x n S M P (.int (zr_film A s r).1) (zr_film A s r).2) := by
  have hg : RNG A := hg2.1
  have hrl := (rul_lt hg).1
  obtain ⟨cn, hc6, hcA, hcZ⟩ := cnt_e hg
  have h6 := (rul_lt hg).2
  have hct := hA.1
  have hrt := hct.rt hg hA.2.2.1
  have hst := hA.2.2.2.1
  by_cases hs0 : isSh s
  · skip
    obtain ⟨u, hu3, rfl⟩ := n_of (m := 3) (by decide) hs0
    have hu : u < 4 := by omega
    refine KK_of2 [(0, .ref x), (1, .int (nI u)), (2, .int r)] (by decide +kernel) (Nat.le_of_ble_eq_true rfl) rfl ?_
    refine JJ_aload_n dX11_film_0 rfl rfl ?_
    refine JJ_iload_n dX11_film_1 rfl rfl ?_
    refine JJ_callV (rest := []) (congrArg Prod.fst (hC.sh (t := 0) (k := 12) (m := 0) (by decide))) rfl rfl (kc_sheetAt hu hC hX) (by omega) mi_X11_sheetAt lk_X11_196 rfl (Nat.le_of_ble_eq_true rfl) rfl rfl dX11_film_2 ?_
    intro v1 μ2 h3
    obtain ⟨rfl, rfl⟩ := h3
    refine JJ_r1 ?_
    refine JJ_astore_n (lv' := [(3, .ref (x + 67 + 2 * u)), (0, .ref x), (1, .int (nI u)), (2, .int r)]) dX11_film_5 rfl (by decide) rfl ?_
    refine JJ_aload_n dX11_film_6 rfl rfl ?_
    refine JJ_ifnonnullR (tgt := 13) dX11_film_7 (by decide) ?_
    refine JJ_aload_n dX11_film_13 rfl rfl ?_
    refine JJ_iload_n dX11_film_14 rfl rfl ?_
    refine JJ_callV (rest := []) (congrArg Prod.fst (hC.sh (t := 0) (k := 12) (m := 0) (by decide))) rfl rfl (kc_refusal hA hg2 hC hX) (by omega) mi_X11_refusalOfRally lk_X11_180 rfl (Nat.le_of_ble_eq_true rfl) rfl rfl dX11_film_15 ?_
    intro v4 μ5 h6
    obtain ⟨rfl, rfl⟩ := h6
    refine JJ_r1 ?_
    refine JJ_istore (lv' := [(4, .int (z_rb A r)), (3, .ref (x + 67 + 2 * u)), (0, .ref x), (1, .int (nI u)), (2, .int r)]) dX11_film_18 (by decide) rfl ?_
    refine JJ_iload dX11_film_20 rfl ?_
    refine JJ_if_eq (tgt := 28) dX11_film_22 (by decide) (fun c7 => ?_) (fun c7 => ?_)
    · skip
      have hrb := c7
      obtain ⟨k, N, hk, rfl, h16, hr⟩ := rb_rwy hg2 hrb
      have hik : i2n (nI k) = k := nI_clamp (by omega)
      have hN4 := hr.2.1
      have e0 : zr_film A (nI u) (nI k) = (nI (z_fin A k).1, zSheet A u 1 0 (nI (z_fin A k).1) (z_fin A k).1 (fun j => z_to A k j)) := (if_neg (fun z => z ⟨hs0, isSh_n hk⟩)).trans ((if_pos hrb).trans (by rw [hik, show i2n (nI u) = u from nI_clamp (by omega)]))
      rw [e0]
      have hFN := fin_le hr
      obtain ⟨F, hF⟩ : ∃ F, F = (z_fin A k).1 := ⟨_, rfl⟩
      rw [← hF] at hFN ⊢
      refine JJ_aload_n dX11_film_28 rfl rfl ?_
      refine JJ_iload_n dX11_film_29 rfl rfl ?_
      refine JJ_callV (rest := []) (congrArg Prod.fst (hC.sh (t := 0) (k := 12) (m := 0) (by decide))) rfl rfl (kc_inThought hk h16 hr hA hg2 hC hX) (by omega) mi_X11_playInThought lk_X11_183 rfl (Nat.le_of_ble_eq_true rfl) rfl rfl dX11_film_30 ?_
      intro v8 μ9 h10
      obtain ⟨rfl, Mb, Lb, Pb, rfl, b1, b2, b3, b4, b5, b6, b7⟩ := h10
      refine JJ_r1 ?_
      have hCb : CWF x S Pb := hC.keep (fun b k _ _ z => b7 b k z)
      rw [← hF] at b2 b5
      refine JJ_pop dX11_film_33 rfl ?_
      refine JJ_aload_n dX11_film_34 rfl rfl ?_
      refine JJ_iconst (v := 0) dX11_film_35 rfl ?_
      refine JJ_aload_n dX11_film_36 rfl rfl ?_
      refine JJ_geti (v := nI F) (cis := [11]) (k := 14) fa_X11_60 (by decide) (congrArg Prod.fst (hC.sh (t := 0) (k := 12) (m := 0) (by decide))) rfl (hX.1 _ _ (by omega) (by omega) (by omega)) b2 dX11_film_37 ?_
      refine JJ_callV (rest := []) (congrArg Prod.fst (hC.2.2.2.2 u hu).1) rfl rfl (kc_become (N := F) (so := 0) (by omega) hu hCb hX) (by omega) mi_X7_become lk_X11_238 rfl (Nat.le_of_ble_eq_true rfl) rfl rfl dX11_film_40 ?_
      intro v11 μ12 h13
      obtain ⟨rfl, Mc, rfl, c1, c2, c3, c4⟩ := h13
      refine JJ_r0 ?_
      have h14 : Mc x 14 = nI F := (c4 _ _ (by omega) (by omega)).trans b2
      have h9 : ∀ i, i < F → Mc (x + 9) i = z_to A k i := fun i hi => (c4 _ _ (by omega) (by omega)).trans (b5 i hi)
      refine JJ_iconst (v := 0) dX11_film_43 rfl ?_
      refine JJ_istore (lv' := [(5, .int 0), (4, .int (z_rb A (nI k))), (3, .ref (x + 67 + 2 * u)), (0, .ref x), (1, .int (nI u)), (2, .int (nI k))]) dX11_film_44 (by decide) rfl ?_
      have key : ∀ (d j : Nat) (Mx : Nat → Nat → Int32), j + d = F → Mx (x + 67 + 2 * u) 1 = 0 → Mx (x + 67 + 2 * u) 2 = nI F → (∀ i, i < j → Mx (x + 67 + 2 * u + 1) i = z_to A k i) → (∀ b k, b ≠ x + 67 + 2 * u + 1 → Mx b k = Mc b k) → JJ G sc yX11_film cX11_film 6 (some .int) 11 0 0 (cI x n S M P (.int (nI F)) (zSheet A u 1 0 (nI F) F (fun j => z_to A k j))) 46 [(5, .int (nI j)), (0, .ref x), (3, .ref (x + 67 + 2 * u))] [] (n, S, Mx, Lb, Pb) := by
        intro d
        induction d with
        | zero =>
          intro j Mx hjd h1 h2 h3 hf
          refine JJ_iload dX11_film_46 rfl ?_
          refine JJ_aload_n dX11_film_48 rfl rfl ?_
          refine JJ_geti (v := nI F) (cis := [11]) (k := 14) fa_X11_60 (by decide) (congrArg Prod.fst (hC.sh (t := 0) (k := 12) (m := 0) (by decide))) rfl (hX.1 _ _ (by omega) (by omega) (by omega)) ((hf _ _ (by omega)).trans h14) dX11_film_49 ?_
          refine JJ_icmp_ge (tgt := 84) dX11_film_52 (by decide) (fun _ => ?_) (fun c14 => absurd (nI_le (by omega) (by omega)) c14)
          refine JJ_aload_n dX11_film_84 rfl rfl ?_
          refine JJ_geti (v := nI F) (cis := [11]) (k := 14) fa_X11_60 (by decide) (congrArg Prod.fst (hC.sh (t := 0) (k := 12) (m := 0) (by decide))) rfl (hX.1 _ _ (by omega) (by omega) (by omega)) ((hf _ _ (by omega)).trans h14) dX11_film_85 ?_
          refine JJ_iret dX11_film_88 rfl ?_
          have hjF : j = F := by omega
          have hnar : ∀ b k, ¬ CQ x b k → b ≠ x + 67 + 2 * u → b ≠ x + 67 + 2 * u + 1 → Mx b k = M b k := fun b k z1 z2 z3 => (hf b k z3).trans ((c4 b k z2 z3).trans (b6 b k z1))
          have hiF : i2n (nI F) = F := nI_clamp (by omega)
          have hA2 := cABS_sheet (th := 1) (so := 0) (nn := nI F) (N := F) (f := fun j => z_to A k j) (P := P) hA h6 hu hnar (h1.trans (if_neg (by decide)).symm) (fun _ => ⟨h2, by rw [hiF]; exact Nat.le_refl _, fun i hi => h3 i (by rw [hiF] at hi; omega)⟩)
          exact ⟨rfl, n, S, Mx, Lb, Pb, rfl, Nat.le_refl _, fun _ _ => rfl, hCb, hA2.keep (by rw [zsh_o ⟨by omega, by omega⟩]; exact h6) (fun _ _ _ _ _ => rfl) (fun b k _ _ z => b7 b k z) (fun _ _ => trivial), fun b k z => hnar b k (fun e => z (by unfold CQ at e; unfold cF; omega)) (fun e => z (by unfold cF; omega)) (fun e => z (by unfold cF; omega)), fun b k z => b7 b k (fun e => z (by unfold CQP at e; unfold cF; omega))⟩
        | succ d ih =>
          intro j Mx hjd h1 h2 h3 hf
          have hj : j < F := by omega
          refine JJ_iload dX11_film_46 rfl ?_
          refine JJ_aload_n dX11_film_48 rfl rfl ?_
          refine JJ_geti (v := nI F) (cis := [11]) (k := 14) fa_X11_60 (by decide) (congrArg Prod.fst (hC.sh (t := 0) (k := 12) (m := 0) (by decide))) rfl (hX.1 _ _ (by omega) (by omega) (by omega)) ((hf _ _ (by omega)).trans h14) dX11_film_49 ?_
          refine JJ_icmp_ge (tgt := 84) dX11_film_52 (by decide) (fun c15 => absurd c15 (nI_ge (by omega) (by omega))) (fun _ => ?_)
          refine JJ_iload dX11_film_55 rfl ?_
          refine JJ_aload_n dX11_film_57 rfl rfl ?_
          refine JJ_getr (q := x + 9) (cis := [11]) (k := 13) fa_X11_57 (by decide) (congrArg Prod.fst (hC.sh (t := 0) (k := 12) (m := 0) (by decide))) rfl (hCb.rf (t := 0) (s := 13) (u := 9) (by decide)) dX11_film_58 ?_
          refine JJ_alen (t := 0) (hC.sh (t := 9) (k := 20) (m := 40) (by decide)) (by decide) dX11_film_61 ?_
          refine JJ_icmp_ge (tgt := 84) dX11_film_62 (by decide) (fun c16 => absurd c16 (nI_ge (b := 40) (by omega) (by omega))) (fun _ => ?_)
          refine JJ_aload_n dX11_film_65 rfl rfl ?_
          refine JJ_iload dX11_film_66 rfl ?_
          refine JJ_aload_n dX11_film_68 rfl rfl ?_
          refine JJ_getr (q := x + 9) (cis := [11]) (k := 13) fa_X11_57 (by decide) (congrArg Prod.fst (hC.sh (t := 0) (k := 12) (m := 0) (by decide))) rfl (hCb.rf (t := 0) (s := 13) (u := 9) (by decide)) dX11_film_69 ?_
          refine JJ_iload dX11_film_72 rfl ?_
          refine JJ_ialdX (v := z_to A k j) (hC.sh (t := 9) (k := 20) (m := 40) (by decide)) (IX_nI (by omega) (by omega)) (hX.1 _ _ (by omega) (by omega) (by omega)) ((hf _ _ (by omega)).trans (h9 j hj)) dX11_film_74 ?_
          refine JJ_callV (rest := []) (congrArg Prod.fst (hC.2.2.2.2 u hu).1) rfl rfl (kc_put (so := 0) h1 h2 (by omega) hj hu hCb hX) (by omega) mi_X7_put lk_X11_242 rfl (Nat.le_of_ble_eq_true rfl) rfl rfl dX11_film_75 ?_
          intro v17 μ18 h19
          obtain ⟨rfl, rfl⟩ := h19
          refine JJ_r0 ?_
          refine JJ_iinc (v := nI (j + 1)) (lv' := [(5, .int (nI (j + 1))), (0, .ref x), (3, .ref (x + 67 + 2 * u))]) dX11_film_78 rfl (nI_add (j) 1) (by decide) rfl ?_
          refine JJ_goto (tgt := 46) dX11_film_81 (by decide) ?_
          refine JJ.pick [0, 1, 2] rfl ?_
          refine ih (j + 1) _ (by omega) ((up2_n (by omega)).trans h1) ((up2_n (by omega)).trans h2) (fun i hi => ?_) (fun b k z => (up2_n (by omega)).trans (hf b k z))
          by_cases e : i = j
          · rw [e, up2_s]; exact nar0 (cv_zto hg hr (by omega))
          · exact (up2_n (by omega)).trans (h3 i (by omega))
      refine JJ.pick [0, 3, 2] rfl ?_
      exact key F 0 Mc (by omega) c1 c2 (fun i hi => absurd hi (Nat.not_lt_zero _)) (fun _ _ _ => rfl)
    · skip
      refine JJ_iload dX11_film_25 rfl ?_
      refine JJ_iret dX11_film_27 rfl ?_
      have e0 : zr_film A (nI u) r = (z_rb A r, A) := by
        by_cases hs1 : isSh r
        · exact (if_neg (fun z => z ⟨hs0, hs1⟩)).trans (if_neg c7)
        · exact (if_pos (fun z => hs1 z.2)).trans (by rw [show z_rb A r = -2 from rb_1 hs1])
      rw [e0]
      exact cI_q rfl hA hC
  · skip
    have e0 : zr_film A s r = (-2, A) := if_pos (fun z => hs0 z.1)
    rw [e0]
    refine KK_of2 [(0, .ref x), (1, .int s), (2, .int r)] (by decide +kernel) (Nat.le_of_ble_eq_true rfl) rfl ?_
    refine JJ_aload_n dX11_film_0 rfl rfl ?_
    refine JJ_iload_n dX11_film_1 rfl rfl ?_
    refine JJ_callV (rest := []) (congrArg Prod.fst (hC.sh (t := 0) (k := 12) (m := 0) (by decide))) rfl rfl (kc_sheetNo hs0 hC hX) (by omega) mi_X11_sheetAt lk_X11_196 rfl (Nat.le_of_ble_eq_true rfl) rfl rfl dX11_film_2 ?_
    intro v20 μ21 h22
    obtain ⟨rfl, rfl⟩ := h22
    refine JJ_r1 ?_
    refine JJ_astore_nN (lv' := [(3, .null), (0, .ref x), (1, .int s), (2, .int r)]) dX11_film_5 rfl (by decide) rfl ?_
    refine JJ_aload_nN dX11_film_6 rfl rfl ?_
    refine JJ_ifnonnullN dX11_film_7 ?_
    refine JJ_bipush (v := (-2)) dX11_film_10 rfl ?_
    refine JJ_iret dX11_film_12 rfl ?_
    exact cI_q rfl hA hC
end C20
