section C26
variable {G : Gx} {sc : Nat → Nat → Prop} {n : Nat} {S : Nat → Nat × Nat} {M M' : Nat → Nat → Int32} {L : Nat → Nat → Int64} {P : Nat → Nat → Option Nat} {x : Nat} {A B : Abs}

theorem cpM_n {a0 a sp dp m b k : Nat} (h : ¬ (b = a ∧ dp ≤ k ∧ k < dp + m)) : cpM M a0 a sp dp m b k = M b k := if_neg h
theorem cpM_s {a0 a sp dp m k : Nat} (h : dp ≤ k ∧ k < dp + m) : cpM M a0 a sp dp m a k = M a0 (sp + (k - dp)) := if_pos ⟨rfl, h⟩
theorem cABS_cpy {s t i j m : Nat} (h : cABS x n S P M A) (h6 : i2n (A.1 10 0) ≤ 6) (hs : s < 4) (ht : t < 4) (h16 : ¬ A.1 16 s = 0) (hi : i + m ≤ i2n (A.1 18 s)) (hM : M' = cpM M (x + 67 + 2 * s + 1) (x + 67 + 2 * t + 1) i j m) : cABS x n S P M' (zCopy A s i t j m) := by
  have hk : ∀ b k, b ≠ x + 67 + 2 * t + 1 → M' b k = M b k := fun b k z => by rw [hM]; exact cpM_n (by omega)
  refine cABS_loc h h6 (fun b k _ _ _ z _ => hk b k (by omega)) (fun b k z1 z2 z3 => zcp_o (by omega)) rfl (fun v hv => ?_) ?_
  · rw [zcp_o (b := 16) (by omega), zcp_o (b := 17) (by omega), zcp_o (b := 18) (by omega)]
    obtain ⟨q1, q2⟩ := h.2.2.2.2.1 v hv
    refine ⟨(hk _ _ (by omega)).trans q1, fun z => ⟨(hk _ _ (by omega)).trans (q2 z).1, fun q hq => ?_⟩⟩
    by_cases e : v = t ∧ j ≤ q ∧ q < j + m
    · obtain ⟨rfl, e1, e2⟩ := e
      rw [hM, cpM_s ⟨e1, e2⟩]
      have := ((h.2.2.2.2.1 s hs).2 h16).2 (i + (q - j)) (by omega)
      rw [this]
      show _ = if _ then _ else _
      rw [if_pos ⟨rfl, e1, e2⟩, show q - j + i = i + (q - j) by omega]
    · rw [zcp_o (by omega), hM, cpM_n (by omega)]
      exact (q2 z).2 q hq
  · refine ⟨((hk _ _ (by omega)).trans h.2.2.2.2.2.1.1).trans (zcp_o (by omega)).symm, fun q hq => ?_⟩
    rw [zcp_o (by omega)] at hq ⊢
    exact (hk _ _ (by omega)).trans (h.2.2.2.2.2.1.2 q hq)
set_option maxHeartbeats 4000000 in
set_option maxRecDepth 100000 in
theorem kc_copy {s i t j nn : Int32} (hA : cABS x n S P M A) (hg2 : RNG2 A) (hC : CWF x S P) (hX : HSC x sc) : KK G sc yX11_copy cX11_copy 8 (some .int) 3 0 0 [.ref x, .int s, .int i, .int t, .int j, .int nn] (n, S, M, L, P) (cI x n S M P (.int (zr_copy A s i t j nn).1) (zr_copy A s i t j nn).2) := by
  have hg : RNG A := hg2.1
  have hrl := (rul_lt hg).1
  obtain ⟨cn, hc6, hcA, hcZ⟩ := cnt_e hg
  have h6 := (rul_lt hg).2
  have hct := hA.1
  have hrt := hct.rt hg hA.2.2.1
  have hst := hA.2.2.2.1
  have z0 : (0 : Int32).toInt = 0 := rfl
  by_cases hs0 : isSh s
  · skip
    obtain ⟨k, hk3, rfl⟩ := n_of (m := 3) (by decide) hs0
    have hk : k < 4 := by omega
    have hik : i2n (nI k) = k := nI_clamp (by omega)
    by_cases ht0 : isSh t
    · skip
      obtain ⟨u, hu3, rfl⟩ := n_of (m := 3) (by decide) ht0
      have hu : u < 4 := by omega
      have hiu : i2n (nI u) = u := nI_clamp (by omega)
      by_cases h16 : A.1 16 k = 0
      · skip
        have hmi : M (x + 67 + 2 * k) 1 = -1 := ((hA.2.2.2.2.1 k hk).1).trans (if_pos h16)
        have e0 : zr_copy A (nI k) i (nI u) j nn = (-11, A) := (if_neg (fun z => z ⟨hs0, ht0⟩)).trans (if_pos (Or.inl (by rw [hik]; exact h16)))
        rw [e0]
        refine KK_of2 [(0, .ref x), (1, .int (nI k)), (2, .int i), (3, .int (nI u)), (4, .int j), (5, .int nn)] (by decide +kernel) (Nat.le_of_ble_eq_true rfl) rfl ?_
        refine JJ_aload_n dX11_copy_0 rfl rfl ?_
        refine JJ_iload_n dX11_copy_1 rfl rfl ?_
        refine JJ_callV (rest := []) (congrArg Prod.fst (hC.sh (t := 0) (k := 12) (m := 0) (by decide))) rfl rfl (kc_sheetAt hk hC hX) (by omega) mi_X11_sheetAt lk_X11_196 rfl (Nat.le_of_ble_eq_true rfl) rfl rfl dX11_copy_2 ?_
        intro v1 μ2 h3
        obtain ⟨rfl, rfl⟩ := h3
        refine JJ_r1 ?_
        refine JJ_astore (lv' := [(6, .ref (x + 67 + 2 * k)), (0, .ref x), (1, .int (nI k)), (2, .int i), (3, .int (nI u)), (4, .int j), (5, .int nn)]) dX11_copy_5 (by decide) rfl ?_
        refine JJ_aload_n dX11_copy_7 rfl rfl ?_
        refine JJ_iload_n dX11_copy_8 rfl rfl ?_
        refine JJ_callV (rest := []) (congrArg Prod.fst (hC.sh (t := 0) (k := 12) (m := 0) (by decide))) rfl rfl (kc_sheetAt hu hC hX) (by omega) mi_X11_sheetAt lk_X11_196 rfl (Nat.le_of_ble_eq_true rfl) rfl rfl dX11_copy_9 ?_
        intro v4 μ5 h6
        obtain ⟨rfl, rfl⟩ := h6
        refine JJ_r1 ?_
        refine JJ_astore (lv' := [(7, .ref (x + 67 + 2 * u)), (6, .ref (x + 67 + 2 * k)), (0, .ref x), (1, .int (nI k)), (2, .int i), (3, .int (nI u)), (4, .int j), (5, .int nn)]) dX11_copy_12 (by decide) rfl ?_
        refine JJ_aload dX11_copy_14 rfl ?_
        refine JJ_ifnullR dX11_copy_16 ?_
        refine JJ_aload dX11_copy_19 rfl ?_
        refine JJ_ifnonnullR (tgt := 27) dX11_copy_21 (by decide) ?_
        refine JJ_aload dX11_copy_27 rfl ?_
        refine JJ_callV (rest := []) (congrArg Prod.fst (hC.2.2.2.2 k hk).1) rfl rfl (kc_isMissing hk hC hX) (by omega) mi_X7_isMissing lk_X11_221 rfl (Nat.le_of_ble_eq_true rfl) rfl rfl dX11_copy_29 ?_
        intro v7 μ8 h9
        obtain ⟨rfl, rfl⟩ := h9
        refine JJ_r1 ?_
        refine JJ_eqi (x2 := 1) (b2_t hmi) ?_
        refine JJ_if_ne (tgt := 43) dX11_copy_32 (by decide) (fun _ => ?_) (fun c10 => absurd c10 (by decide))
        refine JJ_bipush (v := (-11)) dX11_copy_43 rfl ?_
        refine JJ_iret dX11_copy_45 rfl ?_
        exact cI_q rfl hA hC
      · skip
        obtain ⟨⟨N, hN4, eN, hMN, hMI⟩, hsor, hsr⟩ := sh_there hk hg2 hA.2.2.2.2.1 h16
        by_cases h16u : A.1 16 u = 0
        · skip
          have hmi : M (x + 67 + 2 * u) 1 = -1 := ((hA.2.2.2.2.1 u hu).1).trans (if_pos h16u)
          have e0 : zr_copy A (nI k) i (nI u) j nn = (-11, A) := (if_neg (fun z => z ⟨hs0, ht0⟩)).trans (if_pos (Or.inr (by rw [hiu]; exact h16u)))
          rw [e0]
          refine KK_of2 [(0, .ref x), (1, .int (nI k)), (2, .int i), (3, .int (nI u)), (4, .int j), (5, .int nn)] (by decide +kernel) (Nat.le_of_ble_eq_true rfl) rfl ?_
          refine JJ_aload_n dX11_copy_0 rfl rfl ?_
          refine JJ_iload_n dX11_copy_1 rfl rfl ?_
          refine JJ_callV (rest := []) (congrArg Prod.fst (hC.sh (t := 0) (k := 12) (m := 0) (by decide))) rfl rfl (kc_sheetAt hk hC hX) (by omega) mi_X11_sheetAt lk_X11_196 rfl (Nat.le_of_ble_eq_true rfl) rfl rfl dX11_copy_2 ?_
          intro v11 μ12 h13
          obtain ⟨rfl, rfl⟩ := h13
          refine JJ_r1 ?_
          refine JJ_astore (lv' := [(6, .ref (x + 67 + 2 * k)), (0, .ref x), (1, .int (nI k)), (2, .int i), (3, .int (nI u)), (4, .int j), (5, .int nn)]) dX11_copy_5 (by decide) rfl ?_
          refine JJ_aload_n dX11_copy_7 rfl rfl ?_
          refine JJ_iload_n dX11_copy_8 rfl rfl ?_
          refine JJ_callV (rest := []) (congrArg Prod.fst (hC.sh (t := 0) (k := 12) (m := 0) (by decide))) rfl rfl (kc_sheetAt hu hC hX) (by omega) mi_X11_sheetAt lk_X11_196 rfl (Nat.le_of_ble_eq_true rfl) rfl rfl dX11_copy_9 ?_
          intro v14 μ15 h16
          obtain ⟨rfl, rfl⟩ := h16
          refine JJ_r1 ?_
          refine JJ_astore (lv' := [(7, .ref (x + 67 + 2 * u)), (6, .ref (x + 67 + 2 * k)), (0, .ref x), (1, .int (nI k)), (2, .int i), (3, .int (nI u)), (4, .int j), (5, .int nn)]) dX11_copy_12 (by decide) rfl ?_
          refine JJ_aload dX11_copy_14 rfl ?_
          refine JJ_ifnullR dX11_copy_16 ?_
          refine JJ_aload dX11_copy_19 rfl ?_
          refine JJ_ifnonnullR (tgt := 27) dX11_copy_21 (by decide) ?_
          refine JJ_aload dX11_copy_27 rfl ?_
          refine JJ_callV (rest := []) (congrArg Prod.fst (hC.2.2.2.2 k hk).1) rfl rfl (kc_isMissing hk hC hX) (by omega) mi_X7_isMissing lk_X11_221 rfl (Nat.le_of_ble_eq_true rfl) rfl rfl dX11_copy_29 ?_
          intro v17 μ18 h19
          obtain ⟨rfl, rfl⟩ := h19
          refine JJ_r1 ?_
          refine JJ_eqi (x2 := 0) (b2_f (by rw [hsor]; exact so_n1 hsr)) ?_
          refine JJ_if_ne (tgt := 43) dX11_copy_32 (by decide) (fun c20 => absurd (by decide) c20) (fun _ => ?_)
          refine JJ_aload dX11_copy_35 rfl ?_
          refine JJ_callV (rest := []) (congrArg Prod.fst (hC.2.2.2.2 u hu).1) rfl rfl (kc_isMissing hu hC hX) (by omega) mi_X7_isMissing lk_X11_221 rfl (Nat.le_of_ble_eq_true rfl) rfl rfl dX11_copy_37 ?_
          intro v21 μ22 h23
          obtain ⟨rfl, rfl⟩ := h23
          refine JJ_r1 ?_
          refine JJ_eqi (x2 := 1) (b2_t hmi) ?_
          refine JJ_if_eq (tgt := 46) dX11_copy_40 (by decide) (fun c24 => absurd c24 (by decide)) (fun _ => ?_)
          refine JJ_bipush (v := (-11)) dX11_copy_43 rfl ?_
          refine JJ_iret dX11_copy_45 rfl ?_
          exact cI_q rfl hA hC
        · skip
          obtain ⟨⟨N2, hN24, eN2, hMN2, hMI2⟩, hsor2, hsr2⟩ := sh_there hu hg2 hA.2.2.2.2.1 h16u
          by_cases h17 : A.1 17 k = A.1 17 u
          · skip
            have hz1 : zN A k = N := by show i2n _ = N; rw [eN]; exact nI_clamp (by omega)
            have hz2 : zN A u = N2 := by show i2n _ = N2; rw [eN2]; exact nI_clamp (by omega)
            by_cases ha : 0 ≤ i.toInt ∧ 0 ≤ nn.toInt ∧ i.toInt + nn.toInt ≤ N
            · skip
              by_cases hb : 0 ≤ j.toInt ∧ 0 ≤ nn.toInt ∧ j.toInt + nn.toInt ≤ N2
              · skip
                have e0 : zr_copy A (nI k) i (nI u) j nn = (nn, zCopy A k (i2n i) u (i2n j) (i2n nn)) := (if_neg (fun z => z ⟨hs0, ht0⟩)).trans ((if_neg (fun z => z.elim (by rw [hik]; exact h16) (by rw [hiu]; exact h16u))).trans ((if_neg (by rw [hik, hiu]; exact fun z => z h17)).trans ((if_neg (by rw [hik, hiu, hz1, hz2]; exact fun z => z ⟨ha.2.1, ha.1, hb.1, ha.2.2, hb.2.2⟩)).trans (by rw [hik, hiu]))))
                rw [e0]
                refine KK_of2 [(0, .ref x), (1, .int (nI k)), (2, .int i), (3, .int (nI u)), (4, .int j), (5, .int nn)] (by decide +kernel) (Nat.le_of_ble_eq_true rfl) rfl ?_
                refine JJ_aload_n dX11_copy_0 rfl rfl ?_
                refine JJ_iload_n dX11_copy_1 rfl rfl ?_
                refine JJ_callV (rest := []) (congrArg Prod.fst (hC.sh (t := 0) (k := 12) (m := 0) (by decide))) rfl rfl (kc_sheetAt hk hC hX) (by omega) mi_X11_sheetAt lk_X11_196 rfl (Nat.le_of_ble_eq_true rfl) rfl rfl dX11_copy_2 ?_
                intro v25 μ26 h27
                obtain ⟨rfl, rfl⟩ := h27
                refine JJ_r1 ?_
                refine JJ_astore (lv' := [(6, .ref (x + 67 + 2 * k)), (0, .ref x), (1, .int (nI k)), (2, .int i), (3, .int (nI u)), (4, .int j), (5, .int nn)]) dX11_copy_5 (by decide) rfl ?_
                refine JJ_aload_n dX11_copy_7 rfl rfl ?_
                refine JJ_iload_n dX11_copy_8 rfl rfl ?_
                refine JJ_callV (rest := []) (congrArg Prod.fst (hC.sh (t := 0) (k := 12) (m := 0) (by decide))) rfl rfl (kc_sheetAt hu hC hX) (by omega) mi_X11_sheetAt lk_X11_196 rfl (Nat.le_of_ble_eq_true rfl) rfl rfl dX11_copy_9 ?_
                intro v28 μ29 h30
                obtain ⟨rfl, rfl⟩ := h30
                refine JJ_r1 ?_
                refine JJ_astore (lv' := [(7, .ref (x + 67 + 2 * u)), (6, .ref (x + 67 + 2 * k)), (0, .ref x), (1, .int (nI k)), (2, .int i), (3, .int (nI u)), (4, .int j), (5, .int nn)]) dX11_copy_12 (by decide) rfl ?_
                refine JJ_aload dX11_copy_14 rfl ?_
                refine JJ_ifnullR dX11_copy_16 ?_
                refine JJ_aload dX11_copy_19 rfl ?_
                refine JJ_ifnonnullR (tgt := 27) dX11_copy_21 (by decide) ?_
                refine JJ_aload dX11_copy_27 rfl ?_
                refine JJ_callV (rest := []) (congrArg Prod.fst (hC.2.2.2.2 k hk).1) rfl rfl (kc_isMissing hk hC hX) (by omega) mi_X7_isMissing lk_X11_221 rfl (Nat.le_of_ble_eq_true rfl) rfl rfl dX11_copy_29 ?_
                intro v31 μ32 h33
                obtain ⟨rfl, rfl⟩ := h33
                refine JJ_r1 ?_
                refine JJ_eqi (x2 := 0) (b2_f (by rw [hsor]; exact so_n1 hsr)) ?_
                refine JJ_if_ne (tgt := 43) dX11_copy_32 (by decide) (fun c34 => absurd (by decide) c34) (fun _ => ?_)
                refine JJ_aload dX11_copy_35 rfl ?_
                refine JJ_callV (rest := []) (congrArg Prod.fst (hC.2.2.2.2 u hu).1) rfl rfl (kc_isMissing hu hC hX) (by omega) mi_X7_isMissing lk_X11_221 rfl (Nat.le_of_ble_eq_true rfl) rfl rfl dX11_copy_37 ?_
                intro v35 μ36 h37
                obtain ⟨rfl, rfl⟩ := h37
                refine JJ_r1 ?_
                refine JJ_eqi (x2 := 0) (b2_f (by rw [hsor2]; exact so_n1 hsr2)) ?_
                refine JJ_if_eq (tgt := 46) dX11_copy_40 (by decide) (fun _ => ?_) (fun c38 => absurd (by decide) c38)
                refine JJ_aload dX11_copy_46 rfl ?_
                refine JJ_geti (v := A.1 17 k) (cis := [7]) (k := 1) fa_X11_265 (by decide) (congrArg Prod.fst (hC.2.2.2.2 k hk).1) rfl (hX.1 _ _ (by omega) (by omega) (by omega)) hsor dX11_copy_48 ?_
                refine JJ_aload dX11_copy_51 rfl ?_
                refine JJ_geti (v := A.1 17 u) (cis := [7]) (k := 1) fa_X11_265 (by decide) (congrArg Prod.fst (hC.2.2.2.2 u hu).1) rfl (hX.1 _ _ (by omega) (by omega) (by omega)) hsor2 dX11_copy_53 ?_
                refine JJ_icmp_eq (tgt := 62) dX11_copy_56 (by decide) (fun _ => ?_) (fun c39 => absurd h17 c39)
                refine JJ_aload dX11_copy_62 rfl ?_
                refine JJ_iload_n dX11_copy_64 rfl rfl ?_
                refine JJ_iload dX11_copy_65 rfl ?_
                refine JJ_callV (rest := []) (congrArg Prod.fst (hC.2.2.2.2 k hk).1) rfl rfl (kc_holds hMN hN4 hk hC hX) (by omega) mi_X7_holds lk_X11_262 rfl (Nat.le_of_ble_eq_true rfl) rfl rfl dX11_copy_67 ?_
                intro v40 μ41 h42
                obtain ⟨rfl, rfl⟩ := h42
                refine JJ_r1 ?_
                refine JJ_eqi (x2 := 1) (b2_t ha) ?_
                refine JJ_if_eq (tgt := 85) dX11_copy_70 (by decide) (fun c43 => absurd c43 (by decide)) (fun _ => ?_)
                refine JJ_aload dX11_copy_73 rfl ?_
                refine JJ_iload dX11_copy_75 rfl ?_
                refine JJ_iload dX11_copy_77 rfl ?_
                refine JJ_callV (rest := []) (congrArg Prod.fst (hC.2.2.2.2 u hu).1) rfl rfl (kc_holds hMN2 hN24 hu hC hX) (by omega) mi_X7_holds lk_X11_262 rfl (Nat.le_of_ble_eq_true rfl) rfl rfl dX11_copy_79 ?_
                intro v44 μ45 h46
                obtain ⟨rfl, rfl⟩ := h46
                refine JJ_r1 ?_
                refine JJ_eqi (x2 := 1) (b2_t hb) ?_
                refine JJ_if_ne (tgt := 88) dX11_copy_82 (by decide) (fun _ => ?_) (fun c47 => absurd c47 (by decide))
                refine JJ_aload dX11_copy_88 rfl ?_
                refine JJ_getr (q := x + 67 + 2 * k + 1) (cis := [7]) (k := 0) fa_X11_268 (by decide) (congrArg Prod.fst (hC.2.2.2.2 k hk).1) rfl (hC.2.2.2.2 k hk).2.2 dX11_copy_90 ?_
                refine JJ_iload_n dX11_copy_93 rfl rfl ?_
                refine JJ_aload dX11_copy_94 rfl ?_
                refine JJ_getr (q := x + 67 + 2 * u + 1) (cis := [7]) (k := 0) fa_X11_268 (by decide) (congrArg Prod.fst (hC.2.2.2.2 u hu).1) rfl (hC.2.2.2.2 u hu).2.2 dX11_copy_96 ?_
                refine JJ_iload dX11_copy_99 rfl ?_
                refine JJ_iload dX11_copy_101 rfl ?_
                refine JJ_acopy (n0 := 40) (n1 := 40) (hC.2.2.2.2 k hk).2.1 (hC.2.2.2.2 u hu).2.1 lk_X11_271 tb_910 tb_909 tb_85 (fun y => by rw [i_lt] at y; omega) (fun y => by rw [i_lt] at y; omega) (fun y => by rw [i_lt] at y; omega) (by show i.toInt.toNat + nn.toInt.toNat ≤ 40; omega) (by show j.toInt.toNat + nn.toInt.toNat ≤ 40; omega) (fun _ => hX.1 _ _ (by omega) (by omega) (by omega)) (Nat.le_of_ble_eq_true rfl) dX11_copy_103 (fun Mc hMc => ?_)
                refine JJ_iload dX11_copy_106 rfl ?_
                refine JJ_iret dX11_copy_108 rfl ?_
                exact cI_m rfl (cABS_cpy hA h6 hk hu h16 (by rw [eN, show i2n (nI N) = N from nI_clamp (by omega)]; show i.toInt.toNat + nn.toInt.toNat ≤ N; omega) hMc) hC (fun b q z => by rw [hMc]; exact cpM_n (fun e => z (by unfold cF; omega)))
              · skip
                have e0 : zr_copy A (nI k) i (nI u) j nn = (-12, A) := (if_neg (fun z => z ⟨hs0, ht0⟩)).trans ((if_neg (fun z => z.elim (by rw [hik]; exact h16) (by rw [hiu]; exact h16u))).trans ((if_neg (by rw [hik, hiu]; exact fun z => z h17)).trans (if_pos (by rw [hik, hiu, hz1, hz2]; exact fun z => hb ⟨z.2.2.1, z.1, z.2.2.2.2⟩))))
                rw [e0]
                refine KK_of2 [(0, .ref x), (1, .int (nI k)), (2, .int i), (3, .int (nI u)), (4, .int j), (5, .int nn)] (by decide +kernel) (Nat.le_of_ble_eq_true rfl) rfl ?_
                refine JJ_aload_n dX11_copy_0 rfl rfl ?_
                refine JJ_iload_n dX11_copy_1 rfl rfl ?_
                refine JJ_callV (rest := []) (congrArg Prod.fst (hC.sh (t := 0) (k := 12) (m := 0) (by decide))) rfl rfl (kc_sheetAt hk hC hX) (by omega) mi_X11_sheetAt lk_X11_196 rfl (Nat.le_of_ble_eq_true rfl) rfl rfl dX11_copy_2 ?_
                intro v48 μ49 h50
                obtain ⟨rfl, rfl⟩ := h50
                refine JJ_r1 ?_
                refine JJ_astore (lv' := [(6, .ref (x + 67 + 2 * k)), (0, .ref x), (1, .int (nI k)), (2, .int i), (3, .int (nI u)), (4, .int j), (5, .int nn)]) dX11_copy_5 (by decide) rfl ?_
                refine JJ_aload_n dX11_copy_7 rfl rfl ?_
                refine JJ_iload_n dX11_copy_8 rfl rfl ?_
                refine JJ_callV (rest := []) (congrArg Prod.fst (hC.sh (t := 0) (k := 12) (m := 0) (by decide))) rfl rfl (kc_sheetAt hu hC hX) (by omega) mi_X11_sheetAt lk_X11_196 rfl (Nat.le_of_ble_eq_true rfl) rfl rfl dX11_copy_9 ?_
                intro v51 μ52 h53
                obtain ⟨rfl, rfl⟩ := h53
                refine JJ_r1 ?_
                refine JJ_astore (lv' := [(7, .ref (x + 67 + 2 * u)), (6, .ref (x + 67 + 2 * k)), (0, .ref x), (1, .int (nI k)), (2, .int i), (3, .int (nI u)), (4, .int j), (5, .int nn)]) dX11_copy_12 (by decide) rfl ?_
                refine JJ_aload dX11_copy_14 rfl ?_
                refine JJ_ifnullR dX11_copy_16 ?_
                refine JJ_aload dX11_copy_19 rfl ?_
                refine JJ_ifnonnullR (tgt := 27) dX11_copy_21 (by decide) ?_
                refine JJ_aload dX11_copy_27 rfl ?_
                refine JJ_callV (rest := []) (congrArg Prod.fst (hC.2.2.2.2 k hk).1) rfl rfl (kc_isMissing hk hC hX) (by omega) mi_X7_isMissing lk_X11_221 rfl (Nat.le_of_ble_eq_true rfl) rfl rfl dX11_copy_29 ?_
                intro v54 μ55 h56
                obtain ⟨rfl, rfl⟩ := h56
                refine JJ_r1 ?_
                refine JJ_eqi (x2 := 0) (b2_f (by rw [hsor]; exact so_n1 hsr)) ?_
                refine JJ_if_ne (tgt := 43) dX11_copy_32 (by decide) (fun c57 => absurd (by decide) c57) (fun _ => ?_)
                refine JJ_aload dX11_copy_35 rfl ?_
                refine JJ_callV (rest := []) (congrArg Prod.fst (hC.2.2.2.2 u hu).1) rfl rfl (kc_isMissing hu hC hX) (by omega) mi_X7_isMissing lk_X11_221 rfl (Nat.le_of_ble_eq_true rfl) rfl rfl dX11_copy_37 ?_
                intro v58 μ59 h60
                obtain ⟨rfl, rfl⟩ := h60
                refine JJ_r1 ?_
                refine JJ_eqi (x2 := 0) (b2_f (by rw [hsor2]; exact so_n1 hsr2)) ?_
                refine JJ_if_eq (tgt := 46) dX11_copy_40 (by decide) (fun _ => ?_) (fun c61 => absurd (by decide) c61)
                refine JJ_aload dX11_copy_46 rfl ?_
                refine JJ_geti (v := A.1 17 k) (cis := [7]) (k := 1) fa_X11_265 (by decide) (congrArg Prod.fst (hC.2.2.2.2 k hk).1) rfl (hX.1 _ _ (by omega) (by omega) (by omega)) hsor dX11_copy_48 ?_
                refine JJ_aload dX11_copy_51 rfl ?_
                refine JJ_geti (v := A.1 17 u) (cis := [7]) (k := 1) fa_X11_265 (by decide) (congrArg Prod.fst (hC.2.2.2.2 u hu).1) rfl (hX.1 _ _ (by omega) (by omega) (by omega)) hsor2 dX11_copy_53 ?_
                refine JJ_icmp_eq (tgt := 62) dX11_copy_56 (by decide) (fun _ => ?_) (fun c62 => absurd h17 c62)
                refine JJ_aload dX11_copy_62 rfl ?_
                refine JJ_iload_n dX11_copy_64 rfl rfl ?_
                refine JJ_iload dX11_copy_65 rfl ?_
                refine JJ_callV (rest := []) (congrArg Prod.fst (hC.2.2.2.2 k hk).1) rfl rfl (kc_holds hMN hN4 hk hC hX) (by omega) mi_X7_holds lk_X11_262 rfl (Nat.le_of_ble_eq_true rfl) rfl rfl dX11_copy_67 ?_
                intro v63 μ64 h65
                obtain ⟨rfl, rfl⟩ := h65
                refine JJ_r1 ?_
                refine JJ_eqi (x2 := 1) (b2_t ha) ?_
                refine JJ_if_eq (tgt := 85) dX11_copy_70 (by decide) (fun c66 => absurd c66 (by decide)) (fun _ => ?_)
                refine JJ_aload dX11_copy_73 rfl ?_
                refine JJ_iload dX11_copy_75 rfl ?_
                refine JJ_iload dX11_copy_77 rfl ?_
                refine JJ_callV (rest := []) (congrArg Prod.fst (hC.2.2.2.2 u hu).1) rfl rfl (kc_holds hMN2 hN24 hu hC hX) (by omega) mi_X7_holds lk_X11_262 rfl (Nat.le_of_ble_eq_true rfl) rfl rfl dX11_copy_79 ?_
                intro v67 μ68 h69
                obtain ⟨rfl, rfl⟩ := h69
                refine JJ_r1 ?_
                refine JJ_eqi (x2 := 0) (b2_f hb) ?_
                refine JJ_if_ne (tgt := 88) dX11_copy_82 (by decide) (fun c70 => absurd (by decide) c70) (fun _ => ?_)
                refine JJ_bipush (v := (-12)) dX11_copy_85 rfl ?_
                refine JJ_iret dX11_copy_87 rfl ?_
                exact cI_q rfl hA hC
            · skip
              have e0 : zr_copy A (nI k) i (nI u) j nn = (-12, A) := (if_neg (fun z => z ⟨hs0, ht0⟩)).trans ((if_neg (fun z => z.elim (by rw [hik]; exact h16) (by rw [hiu]; exact h16u))).trans ((if_neg (by rw [hik, hiu]; exact fun z => z h17)).trans (if_pos (by rw [hik, hiu, hz1, hz2]; exact fun z => ha ⟨z.2.1, z.1, z.2.2.2.1⟩))))
              rw [e0]
              refine KK_of2 [(0, .ref x), (1, .int (nI k)), (2, .int i), (3, .int (nI u)), (4, .int j), (5, .int nn)] (by decide +kernel) (Nat.le_of_ble_eq_true rfl) rfl ?_
              refine JJ_aload_n dX11_copy_0 rfl rfl ?_
              refine JJ_iload_n dX11_copy_1 rfl rfl ?_
              refine JJ_callV (rest := []) (congrArg Prod.fst (hC.sh (t := 0) (k := 12) (m := 0) (by decide))) rfl rfl (kc_sheetAt hk hC hX) (by omega) mi_X11_sheetAt lk_X11_196 rfl (Nat.le_of_ble_eq_true rfl) rfl rfl dX11_copy_2 ?_
              intro v71 μ72 h73
              obtain ⟨rfl, rfl⟩ := h73
              refine JJ_r1 ?_
              refine JJ_astore (lv' := [(6, .ref (x + 67 + 2 * k)), (0, .ref x), (1, .int (nI k)), (2, .int i), (3, .int (nI u)), (4, .int j), (5, .int nn)]) dX11_copy_5 (by decide) rfl ?_
              refine JJ_aload_n dX11_copy_7 rfl rfl ?_
              refine JJ_iload_n dX11_copy_8 rfl rfl ?_
              refine JJ_callV (rest := []) (congrArg Prod.fst (hC.sh (t := 0) (k := 12) (m := 0) (by decide))) rfl rfl (kc_sheetAt hu hC hX) (by omega) mi_X11_sheetAt lk_X11_196 rfl (Nat.le_of_ble_eq_true rfl) rfl rfl dX11_copy_9 ?_
              intro v74 μ75 h76
              obtain ⟨rfl, rfl⟩ := h76
              refine JJ_r1 ?_
              refine JJ_astore (lv' := [(7, .ref (x + 67 + 2 * u)), (6, .ref (x + 67 + 2 * k)), (0, .ref x), (1, .int (nI k)), (2, .int i), (3, .int (nI u)), (4, .int j), (5, .int nn)]) dX11_copy_12 (by decide) rfl ?_
              refine JJ_aload dX11_copy_14 rfl ?_
              refine JJ_ifnullR dX11_copy_16 ?_
              refine JJ_aload dX11_copy_19 rfl ?_
              refine JJ_ifnonnullR (tgt := 27) dX11_copy_21 (by decide) ?_
              refine JJ_aload dX11_copy_27 rfl ?_
              refine JJ_callV (rest := []) (congrArg Prod.fst (hC.2.2.2.2 k hk).1) rfl rfl (kc_isMissing hk hC hX) (by omega) mi_X7_isMissing lk_X11_221 rfl (Nat.le_of_ble_eq_true rfl) rfl rfl dX11_copy_29 ?_
              intro v77 μ78 h79
              obtain ⟨rfl, rfl⟩ := h79
              refine JJ_r1 ?_
              refine JJ_eqi (x2 := 0) (b2_f (by rw [hsor]; exact so_n1 hsr)) ?_
              refine JJ_if_ne (tgt := 43) dX11_copy_32 (by decide) (fun c80 => absurd (by decide) c80) (fun _ => ?_)
              refine JJ_aload dX11_copy_35 rfl ?_
              refine JJ_callV (rest := []) (congrArg Prod.fst (hC.2.2.2.2 u hu).1) rfl rfl (kc_isMissing hu hC hX) (by omega) mi_X7_isMissing lk_X11_221 rfl (Nat.le_of_ble_eq_true rfl) rfl rfl dX11_copy_37 ?_
              intro v81 μ82 h83
              obtain ⟨rfl, rfl⟩ := h83
              refine JJ_r1 ?_
              refine JJ_eqi (x2 := 0) (b2_f (by rw [hsor2]; exact so_n1 hsr2)) ?_
              refine JJ_if_eq (tgt := 46) dX11_copy_40 (by decide) (fun _ => ?_) (fun c84 => absurd (by decide) c84)
              refine JJ_aload dX11_copy_46 rfl ?_
              refine JJ_geti (v := A.1 17 k) (cis := [7]) (k := 1) fa_X11_265 (by decide) (congrArg Prod.fst (hC.2.2.2.2 k hk).1) rfl (hX.1 _ _ (by omega) (by omega) (by omega)) hsor dX11_copy_48 ?_
              refine JJ_aload dX11_copy_51 rfl ?_
              refine JJ_geti (v := A.1 17 u) (cis := [7]) (k := 1) fa_X11_265 (by decide) (congrArg Prod.fst (hC.2.2.2.2 u hu).1) rfl (hX.1 _ _ (by omega) (by omega) (by omega)) hsor2 dX11_copy_53 ?_
              refine JJ_icmp_eq (tgt := 62) dX11_copy_56 (by decide) (fun _ => ?_) (fun c85 => absurd h17 c85)
              refine JJ_aload dX11_copy_62 rfl ?_
              refine JJ_iload_n dX11_copy_64 rfl rfl ?_
              refine JJ_iload dX11_copy_65 rfl ?_
              refine JJ_callV (rest := []) (congrArg Prod.fst (hC.2.2.2.2 k hk).1) rfl rfl (kc_holds hMN hN4 hk hC hX) (by omega) mi_X7_holds lk_X11_262 rfl (Nat.le_of_ble_eq_true rfl) rfl rfl dX11_copy_67 ?_
              intro v86 μ87 h88
              obtain ⟨rfl, rfl⟩ := h88
              refine JJ_r1 ?_
              refine JJ_eqi (x2 := 0) (b2_f ha) ?_
              refine JJ_if_eq (tgt := 85) dX11_copy_70 (by decide) (fun _ => ?_) (fun c89 => absurd (by decide) c89)
              refine JJ_bipush (v := (-12)) dX11_copy_85 rfl ?_
              refine JJ_iret dX11_copy_87 rfl ?_
              exact cI_q rfl hA hC
          · skip
            have e0 : zr_copy A (nI k) i (nI u) j nn = (-13, A) := (if_neg (fun z => z ⟨hs0, ht0⟩)).trans ((if_neg (fun z => z.elim (by rw [hik]; exact h16) (by rw [hiu]; exact h16u))).trans (if_pos (by rw [hik, hiu]; exact h17)))
            rw [e0]
            refine KK_of2 [(0, .ref x), (1, .int (nI k)), (2, .int i), (3, .int (nI u)), (4, .int j), (5, .int nn)] (by decide +kernel) (Nat.le_of_ble_eq_true rfl) rfl ?_
            refine JJ_aload_n dX11_copy_0 rfl rfl ?_
            refine JJ_iload_n dX11_copy_1 rfl rfl ?_
            refine JJ_callV (rest := []) (congrArg Prod.fst (hC.sh (t := 0) (k := 12) (m := 0) (by decide))) rfl rfl (kc_sheetAt hk hC hX) (by omega) mi_X11_sheetAt lk_X11_196 rfl (Nat.le_of_ble_eq_true rfl) rfl rfl dX11_copy_2 ?_
            intro v90 μ91 h92
            obtain ⟨rfl, rfl⟩ := h92
            refine JJ_r1 ?_
            refine JJ_astore (lv' := [(6, .ref (x + 67 + 2 * k)), (0, .ref x), (1, .int (nI k)), (2, .int i), (3, .int (nI u)), (4, .int j), (5, .int nn)]) dX11_copy_5 (by decide) rfl ?_
            refine JJ_aload_n dX11_copy_7 rfl rfl ?_
            refine JJ_iload_n dX11_copy_8 rfl rfl ?_
            refine JJ_callV (rest := []) (congrArg Prod.fst (hC.sh (t := 0) (k := 12) (m := 0) (by decide))) rfl rfl (kc_sheetAt hu hC hX) (by omega) mi_X11_sheetAt lk_X11_196 rfl (Nat.le_of_ble_eq_true rfl) rfl rfl dX11_copy_9 ?_
            intro v93 μ94 h95
            obtain ⟨rfl, rfl⟩ := h95
            refine JJ_r1 ?_
            refine JJ_astore (lv' := [(7, .ref (x + 67 + 2 * u)), (6, .ref (x + 67 + 2 * k)), (0, .ref x), (1, .int (nI k)), (2, .int i), (3, .int (nI u)), (4, .int j), (5, .int nn)]) dX11_copy_12 (by decide) rfl ?_
            refine JJ_aload dX11_copy_14 rfl ?_
            refine JJ_ifnullR dX11_copy_16 ?_
            refine JJ_aload dX11_copy_19 rfl ?_
            refine JJ_ifnonnullR (tgt := 27) dX11_copy_21 (by decide) ?_
            refine JJ_aload dX11_copy_27 rfl ?_
            refine JJ_callV (rest := []) (congrArg Prod.fst (hC.2.2.2.2 k hk).1) rfl rfl (kc_isMissing hk hC hX) (by omega) mi_X7_isMissing lk_X11_221 rfl (Nat.le_of_ble_eq_true rfl) rfl rfl dX11_copy_29 ?_
            intro v96 μ97 h98
            obtain ⟨rfl, rfl⟩ := h98
            refine JJ_r1 ?_
            refine JJ_eqi (x2 := 0) (b2_f (by rw [hsor]; exact so_n1 hsr)) ?_
            refine JJ_if_ne (tgt := 43) dX11_copy_32 (by decide) (fun c99 => absurd (by decide) c99) (fun _ => ?_)
            refine JJ_aload dX11_copy_35 rfl ?_
            refine JJ_callV (rest := []) (congrArg Prod.fst (hC.2.2.2.2 u hu).1) rfl rfl (kc_isMissing hu hC hX) (by omega) mi_X7_isMissing lk_X11_221 rfl (Nat.le_of_ble_eq_true rfl) rfl rfl dX11_copy_37 ?_
            intro v100 μ101 h102
            obtain ⟨rfl, rfl⟩ := h102
            refine JJ_r1 ?_
            refine JJ_eqi (x2 := 0) (b2_f (by rw [hsor2]; exact so_n1 hsr2)) ?_
            refine JJ_if_eq (tgt := 46) dX11_copy_40 (by decide) (fun _ => ?_) (fun c103 => absurd (by decide) c103)
            refine JJ_aload dX11_copy_46 rfl ?_
            refine JJ_geti (v := A.1 17 k) (cis := [7]) (k := 1) fa_X11_265 (by decide) (congrArg Prod.fst (hC.2.2.2.2 k hk).1) rfl (hX.1 _ _ (by omega) (by omega) (by omega)) hsor dX11_copy_48 ?_
            refine JJ_aload dX11_copy_51 rfl ?_
            refine JJ_geti (v := A.1 17 u) (cis := [7]) (k := 1) fa_X11_265 (by decide) (congrArg Prod.fst (hC.2.2.2.2 u hu).1) rfl (hX.1 _ _ (by omega) (by omega) (by omega)) hsor2 dX11_copy_53 ?_
            refine JJ_icmp_eq (tgt := 62) dX11_copy_56 (by decide) (fun c104 => absurd c104 h17) (fun _ => ?_)
            refine JJ_bipush (v := (-13)) dX11_copy_59 rfl ?_
            refine JJ_iret dX11_copy_61 rfl ?_
            exact cI_q rfl hA hC
    · skip
      have e0 : zr_copy A (nI k) i t j nn = (-2, A) := if_pos (fun z => ht0 z.2)
      rw [e0]
      refine KK_of2 [(0, .ref x), (1, .int (nI k)), (2, .int i), (3, .int t), (4, .int j), (5, .int nn)] (by decide +kernel) (Nat.le_of_ble_eq_true rfl) rfl ?_
      refine JJ_aload_n dX11_copy_0 rfl rfl ?_
      refine JJ_iload_n dX11_copy_1 rfl rfl ?_
      refine JJ_callV (rest := []) (congrArg Prod.fst (hC.sh (t := 0) (k := 12) (m := 0) (by decide))) rfl rfl (kc_sheetAt hk hC hX) (by omega) mi_X11_sheetAt lk_X11_196 rfl (Nat.le_of_ble_eq_true rfl) rfl rfl dX11_copy_2 ?_
      intro v105 μ106 h107
      obtain ⟨rfl, rfl⟩ := h107
      refine JJ_r1 ?_
      refine JJ_astore (lv' := [(6, .ref (x + 67 + 2 * k)), (0, .ref x), (1, .int (nI k)), (2, .int i), (3, .int t), (4, .int j), (5, .int nn)]) dX11_copy_5 (by decide) rfl ?_
      refine JJ_aload_n dX11_copy_7 rfl rfl ?_
      refine JJ_iload_n dX11_copy_8 rfl rfl ?_
      refine JJ_callV (rest := []) (congrArg Prod.fst (hC.sh (t := 0) (k := 12) (m := 0) (by decide))) rfl rfl (kc_sheetNo ht0 hC hX) (by omega) mi_X11_sheetAt lk_X11_196 rfl (Nat.le_of_ble_eq_true rfl) rfl rfl dX11_copy_9 ?_
      intro v108 μ109 h110
      obtain ⟨rfl, rfl⟩ := h110
      refine JJ_r1 ?_
      refine JJ_astoreN (lv' := [(7, .null), (6, .ref (x + 67 + 2 * k)), (0, .ref x), (1, .int (nI k)), (2, .int i), (3, .int t), (4, .int j), (5, .int nn)]) dX11_copy_12 (by decide) rfl ?_
      refine JJ_aload dX11_copy_14 rfl ?_
      refine JJ_ifnullR dX11_copy_16 ?_
      refine JJ_aloadN dX11_copy_19 rfl ?_
      refine JJ_ifnonnullN dX11_copy_21 ?_
      refine JJ_bipush (v := (-2)) dX11_copy_24 rfl ?_
      refine JJ_iret dX11_copy_26 rfl ?_
      exact cI_q rfl hA hC
  · skip
    by_cases ht0 : isSh t
    · skip
      obtain ⟨u, hu3, rfl⟩ := n_of (m := 3) (by decide) ht0
      have hu : u < 4 := by omega
      have e0 : zr_copy A s i (nI u) j nn = (-2, A) := if_pos (fun z => hs0 z.1)
      rw [e0]
      refine KK_of2 [(0, .ref x), (1, .int s), (2, .int i), (3, .int (nI u)), (4, .int j), (5, .int nn)] (by decide +kernel) (Nat.le_of_ble_eq_true rfl) rfl ?_
      refine JJ_aload_n dX11_copy_0 rfl rfl ?_
      refine JJ_iload_n dX11_copy_1 rfl rfl ?_
      refine JJ_callV (rest := []) (congrArg Prod.fst (hC.sh (t := 0) (k := 12) (m := 0) (by decide))) rfl rfl (kc_sheetNo hs0 hC hX) (by omega) mi_X11_sheetAt lk_X11_196 rfl (Nat.le_of_ble_eq_true rfl) rfl rfl dX11_copy_2 ?_
      intro v111 μ112 h113
      obtain ⟨rfl, rfl⟩ := h113
      refine JJ_r1 ?_
      refine JJ_astoreN (lv' := [(6, .null), (0, .ref x), (1, .int s), (2, .int i), (3, .int (nI u)), (4, .int j), (5, .int nn)]) dX11_copy_5 (by decide) rfl ?_
      refine JJ_aload_n dX11_copy_7 rfl rfl ?_
      refine JJ_iload_n dX11_copy_8 rfl rfl ?_
      refine JJ_callV (rest := []) (congrArg Prod.fst (hC.sh (t := 0) (k := 12) (m := 0) (by decide))) rfl rfl (kc_sheetAt hu hC hX) (by omega) mi_X11_sheetAt lk_X11_196 rfl (Nat.le_of_ble_eq_true rfl) rfl rfl dX11_copy_9 ?_
      intro v114 μ115 h116
      obtain ⟨rfl, rfl⟩ := h116
      refine JJ_r1 ?_
      refine JJ_astore (lv' := [(7, .ref (x + 67 + 2 * u)), (6, .null), (0, .ref x), (1, .int s), (2, .int i), (3, .int (nI u)), (4, .int j), (5, .int nn)]) dX11_copy_12 (by decide) rfl ?_
      refine JJ_aloadN dX11_copy_14 rfl ?_
      refine JJ_ifnullN (tgt := 24) dX11_copy_16 (by decide) ?_
      refine JJ_bipush (v := (-2)) dX11_copy_24 rfl ?_
      refine JJ_iret dX11_copy_26 rfl ?_
      exact cI_q rfl hA hC
    · skip
      have e0 : zr_copy A s i t j nn = (-2, A) := if_pos (fun z => hs0 z.1)
      rw [e0]
      refine KK_of2 [(0, .ref x), (1, .int s), (2, .int i), (3, .int t), (4, .int j), (5, .int nn)] (by decide +kernel) (Nat.le_of_ble_eq_true rfl) rfl ?_
      refine JJ_aload_n dX11_copy_0 rfl rfl ?_
      refine JJ_iload_n dX11_copy_1 rfl rfl ?_
      refine JJ_callV (rest := []) (congrArg Prod.fst (hC.sh (t := 0) (k := 12) (m := 0) (by decide))) rfl rfl (kc_sheetNo hs0 hC hX) (by omega) mi_X11_sheetAt lk_X11_196 rfl (Nat.le_of_ble_eq_true rfl) rfl rfl dX11_copy_2 ?_
      intro v117 μ118 h119
      obtain ⟨rfl, rfl⟩ := h119
      refine JJ_r1 ?_
      refine JJ_astoreN (lv' := [(6, .null), (0, .ref x), (1, .int s), (2, .int i), (3, .int t), (4, .int j), (5, .int nn)]) dX11_copy_5 (by decide) rfl ?_
      refine JJ_aload_n dX11_copy_7 rfl rfl ?_
      refine JJ_iload_n dX11_copy_8 rfl rfl ?_
      refine JJ_callV (rest := []) (congrArg Prod.fst (hC.sh (t := 0) (k := 12) (m := 0) (by decide))) rfl rfl (kc_sheetNo ht0 hC hX) (by omega) mi_X11_sheetAt lk_X11_196 rfl (Nat.le_of_ble_eq_true rfl) rfl rfl dX11_copy_9 ?_
      intro v120 μ121 h122
      obtain ⟨rfl, rfl⟩ := h122
      refine JJ_r1 ?_
      refine JJ_astoreN (lv' := [(7, .null), (6, .null), (0, .ref x), (1, .int s), (2, .int i), (3, .int t), (4, .int j), (5, .int nn)]) dX11_copy_12 (by decide) rfl ?_
      refine JJ_aloadN dX11_copy_14 rfl ?_
      refine JJ_ifnullN (tgt := 24) dX11_copy_16 (by decide) ?_
      refine JJ_bipush (v := (-2)) dX11_copy_24 rfl ?_
      refine JJ_iret dX11_copy_26 rfl ?_
      exact cI_q rfl hA hC
end C26
