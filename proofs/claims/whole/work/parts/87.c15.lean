section C15
variable {G : Gx} {sc : Nat → Nat → Prop} {n : Nat} {S : Nat → Nat × Nat} {M : Nat → Nat → Int32} {L : Nat → Nat → Int64} {P : Nat → Nat → Option Nat} {x : Nat} {A : Abs}

/-- an answer of a question: the courts in thought may have changed -/
theorem cI_v {n : Nat} {L' : Nat → Nat → Int64} {M' : Nat → Nat → Int32} {P' : Nat → Nat → Option Nat} {w w' : Value} (e : w = w') (hA : cABS x n S P M A) (h6 : i2n (A.1 10 0) ≤ 6) (hC : CWF x S P) (hM : ∀ b k, ¬ CQ x b k → M' b k = M b k) (hP : ∀ b k, ¬ CQP x b k → P' b k = P b k) (hu : ∀ j, j < 9 → True) : cI x n S M P w' A (some w) (n, S, M', L', P') :=
  ⟨by rw [e], n, S, M', L', P', rfl, Nat.le_refl _, fun _ _ => rfl, hC.keep (fun b k _ _ z => hP b k z), hA.keep h6 (fun b k _ _ z => hM b k z) (fun b k _ _ z => hP b k z) hu, fun b k z => hM b k (fun y => z (by unfold CQ at y; unfold cF; omega)), fun b k z => hP b k (fun y => z (by unfold CQP at y; unfold cF; omega))⟩
theorem VD.q {m b k : Nat} (h : VD x m b k) (hm : m ≤ 5) : CQ x b k := by unfold VD at h; unfold CQ; omega
theorem VP.q {m b k : Nat} (h : VP x m b k) (hm : m ≤ 5) : CQP x b k := by unfold VP at h; unfold CQP; omega
theorem one_le {r v : Int32} (h3 : m3 v) (h1 : 1 ≤ r) (h2 : r ≤ v) : r = v := by
  rw [i_le, show (1 : Int32).toInt = 1 from rfl] at h1
  rw [i_le] at h2
  rcases h3 with rfl | rfl | rfl
  · rw [show (-1 : Int32).toInt = -1 from rfl] at h2; omega
  · rw [show (0 : Int32).toInt = 0 from rfl] at h2; omega
  · rw [i_eq]
    rw [show (1 : Int32).toInt = 1 from rfl] at *
    omega
set_option maxHeartbeats 4000000 in
set_option maxRecDepth 100000 in
theorem kc_best {pl nn what : Int32} (hA : cABS x n S P M A) (hg2 : RNG2 A) (hC : CWF x S P) (hX : HSC x sc) : KK G sc yX11_best cX11_best 5 (some .int) 20 0 0 [.ref x, .int pl, .int nn, .int what] (n, S, M, L, P) (cI x n S M P (.int (zr_best A pl nn what)) A) := by
  have hg : RNG A := hg2.1
  have hrl := (rul_lt hg).1
  obtain ⟨cn, hc6, hcA, hcZ⟩ := cnt_e hg
  have h6 := (rul_lt hg).2
  have hct := hA.1
  have hrt := hct.rt hg hA.2.2.1
  have hst := hA.2.2.2.1
  have z0 : (0 : Int32).toInt = 0 := rfl
  have z5 : (5 : Int32).toInt = 5 := rfl
  have z1 : (1 : Int32).toInt = 1 := rfl
  by_cases hk : isPl pl ∧ (0 ≤ nn.toInt ∧ nn.toInt ≤ 5) ∧ isPl what
  · skip
    obtain ⟨hk1, hk2, hk3⟩ := hk
    obtain ⟨p, hp1, rfl⟩ := n_of (m := 1) (by decide) hk1
    have hp : p < 2 := by omega
    obtain ⟨m, hm5, rfl⟩ := n_of (m := 5) (by decide) hk2
    have e0 : zr_best A (nI p) (nI m) what = if what = 0 then (zval m A p).1 else (zval m A p).2 := (if_neg (fun z => z ⟨hk1, hk2, hk3⟩)).trans (by rw [show i2n (nI p) = p from nI_clamp (by omega), show i2n (nI m) = m from nI_clamp (by omega)])
    rw [e0]
    have hCv : ∀ {P' : Nat → Nat → Option Nat}, (∀ b k, ¬ VP x m b k → P' b k = P b k) → CWF x S P' := fun h => hC.keep (fun b k _ _ z => h b k (fun y => z (y.q (by omega))))
    refine KK_of2 [(0, .ref x), (1, .int (nI p)), (2, .int (nI m)), (3, .int what)] (by decide +kernel) (Nat.le_of_ble_eq_true rfl) rfl ?_
    refine JJ_iload_n dX11_best_0 rfl rfl ?_
    refine JJ_callS (rest := []) (kc_isPlayer) (by omega) mi_X11_isPlayer lk_X11_115 rfl (Nat.le_of_ble_eq_true rfl) rfl rfl dX11_best_1 ?_
    intro v1 μ2 h3
    obtain ⟨rfl, rfl⟩ := h3
    refine JJ_r1 ?_
    refine JJ_eqi (x2 := 1) (b2_t hk1) ?_
    refine JJ_if_eq (tgt := 25) dX11_best_4 (by decide) (fun c4 => absurd c4 (by decide)) (fun _ => ?_)
    refine JJ_iload_n dX11_best_7 rfl rfl ?_
    refine JJ_if_lt (tgt := 25) dX11_best_8 (by decide) (fun c5 => absurd c5 (nI_nn (by omega))) (fun _ => ?_)
    refine JJ_iload_n dX11_best_11 rfl rfl ?_
    refine JJ_iconst (v := 5) dX11_best_12 rfl ?_
    refine JJ_icmp_gt (tgt := 25) dX11_best_13 (by decide) (fun c6 => absurd c6 (Int32.not_lt.mpr (nI_le (b := 5) (by omega) (by omega)))) (fun _ => ?_)
    refine JJ_iload_n dX11_best_16 rfl rfl ?_
    refine JJ_if_lt (tgt := 25) dX11_best_17 (by decide) (fun c7 => absurd c7 (fun y => by rw [i_lt] at y; omega)) (fun _ => ?_)
    refine JJ_iload_n dX11_best_20 rfl rfl ?_
    refine JJ_iconst (v := 1) dX11_best_21 rfl ?_
    refine JJ_icmp_le (tgt := 28) dX11_best_22 (by decide) (fun _ => ?_) (fun c8 => absurd (i_le.mpr (by omega)) c8)
    refine JJ_aload_n dX11_best_28 rfl rfl ?_
    refine JJ_aload_n dX11_best_29 rfl rfl ?_
    refine JJ_getr (q := x + 40) (cis := [11]) (k := 5) fa_X11_97 (by decide) (congrArg Prod.fst (hC.sh (t := 0) (k := 12) (m := 0) (by decide))) rfl (hC.rf (t := 0) (s := 5) (u := 40) (by decide)) dX11_best_30 ?_
    refine JJ_iload_n dX11_best_33 rfl rfl ?_
    refine JJ_iload_n dX11_best_34 rfl rfl ?_
    refine JJ_iconst (v := 1) dX11_best_35 rfl ?_
    refine JJ_callV (rest := []) (congrArg Prod.fst (hC.sh (t := 0) (k := 12) (m := 0) (by decide))) rfl rfl (kc_valueFor m (by omega) (x + 40) p 1 A M L P hp (Or.inr rfl) hct (Or.inl rfl) hA.2.2.1 hst hg2.r3 hC hX) (by omega) mi_X11_valueFor lk_X11_206 rfl (Nat.le_of_ble_eq_true rfl) rfl rfl dX11_best_36 ?_
    intro v9 μ10 h11
    obtain ⟨r, Mv, Lv, Pv, rfl, rfl, hrv, hcv, hMv, hPv⟩ := h11
    refine JJ_r1 ?_
    have hrz : r = (zval m A p).1 := hrv.elim (fun y => y) (fun y => one_le (zval_3 m A p hp hg) y.1 y.2)
    have hu : ∀ j, j < 9 → True := fun _ _ => trivial
    refine JJ_istore (lv' := [(4, .int r), (0, .ref x), (1, .int (nI p)), (2, .int (nI m)), (3, .int what)]) dX11_best_39 (by decide) rfl ?_
    refine JJ_iload_n dX11_best_41 rfl rfl ?_
    refine JJ_if_ne (tgt := 50) dX11_best_42 (by decide) (fun c12 => ?_) (fun c12 => ?_)
    · skip
      refine JJ_aload_n dX11_best_50 rfl rfl ?_
      refine JJ_geti (v := (zval m A p).2) (cis := [11]) (k := 17) fa_X11_72 (by decide) (congrArg Prod.fst (hC.sh (t := 0) (k := 12) (m := 0) (by decide))) rfl (hX.1 _ _ (by omega) (by omega) (by omega)) (hcv rfl) dX11_best_51 ?_
      refine JJ_iret dX11_best_54 rfl ?_
      exact cI_v (by rw [if_neg c12]) hA h6 hC (fun b k z => hMv b k (fun y => z (y.q (by omega)))) (fun b k z => hPv b k (fun y => z (y.q (by omega)))) hu
    · skip
      refine JJ_iload dX11_best_45 rfl ?_
      refine JJ_goto (tgt := 54) dX11_best_47 (by decide) ?_
      refine JJ_iret dX11_best_54 rfl ?_
      exact cI_v (by rw [if_pos c12, hrz]) hA h6 hC (fun b k z => hMv b k (fun y => z (y.q (by omega)))) (fun b k z => hPv b k (fun y => z (y.q (by omega)))) hu
  · skip
    have e0 : zr_best A pl nn what = -100 := if_pos hk
    rw [e0]
    refine KK_of2 [(0, .ref x), (1, .int pl), (2, .int nn), (3, .int what)] (by decide +kernel) (Nat.le_of_ble_eq_true rfl) rfl ?_
    refine JJ_iload_n dX11_best_0 rfl rfl ?_
    refine JJ_callS (rest := []) (kc_isPlayer) (by omega) mi_X11_isPlayer lk_X11_115 rfl (Nat.le_of_ble_eq_true rfl) rfl rfl dX11_best_1 ?_
    intro v13 μ14 h15
    obtain ⟨rfl, rfl⟩ := h15
    refine JJ_r1 ?_
    refine JJ_if_eq (tgt := 25) dX11_best_4 (by decide) (fun c16 => ?_) (fun c16 => ?_)
    · skip
      refine JJ_bipush (v := (-100)) dX11_best_25 rfl ?_
      refine JJ_iret dX11_best_27 rfl ?_
      exact cI_q rfl hA hC
    · skip
      refine JJ_iload_n dX11_best_7 rfl rfl ?_
      refine JJ_if_lt (tgt := 25) dX11_best_8 (by decide) (fun c17 => ?_) (fun c17 => ?_)
      · skip
        refine JJ_bipush (v := (-100)) dX11_best_25 rfl ?_
        refine JJ_iret dX11_best_27 rfl ?_
        exact cI_q rfl hA hC
      · skip
        refine JJ_iload_n dX11_best_11 rfl rfl ?_
        refine JJ_iconst (v := 5) dX11_best_12 rfl ?_
        refine JJ_icmp_gt (tgt := 25) dX11_best_13 (by decide) (fun c18 => ?_) (fun c18 => ?_)
        · skip
          refine JJ_bipush (v := (-100)) dX11_best_25 rfl ?_
          refine JJ_iret dX11_best_27 rfl ?_
          exact cI_q rfl hA hC
        · skip
          refine JJ_iload_n dX11_best_16 rfl rfl ?_
          refine JJ_if_lt (tgt := 25) dX11_best_17 (by decide) (fun c19 => ?_) (fun c19 => ?_)
          · skip
            refine JJ_bipush (v := (-100)) dX11_best_25 rfl ?_
            refine JJ_iret dX11_best_27 rfl ?_
            exact cI_q rfl hA hC
          · skip
            refine JJ_iload_n dX11_best_20 rfl rfl ?_
            refine JJ_iconst (v := 1) dX11_best_21 rfl ?_
            refine JJ_icmp_le (tgt := 28) dX11_best_22 (by decide) (fun c20 => absurd c20 (fun y => hk ⟨b2_n.mp c16, by have y1 := c17; have y2 := c18; rw [i_lt] at y1 y2; omega, by have y3 := c19; rw [i_lt] at y3; rw [i_le] at y; show 0 ≤ what.toInt ∧ what.toInt ≤ 1; omega⟩)) (fun _ => ?_)
            refine JJ_bipush (v := (-100)) dX11_best_25 rfl ?_
            refine JJ_iret dX11_best_27 rfl ?_
            exact cI_q rfl hA hC
set_option maxHeartbeats 4000000 in
set_option maxRecDepth 100000 in
theorem kc_sure {pl : Int32} (hA : cABS x n S P M A) (hg2 : RNG2 A) (hC : CWF x S P) (hX : HSC x sc) : KK G sc yX11_sure cX11_sure 3 (some .int) 20 0 0 [.ref x, .int pl] (n, S, M, L, P) (cI x n S M P (.int (zr_sure A pl)) A) := by
  have hg : RNG A := hg2.1
  have hrl := (rul_lt hg).1
  obtain ⟨cn, hc6, hcA, hcZ⟩ := cnt_e hg
  have h6 := (rul_lt hg).2
  have hct := hA.1
  have hrt := hct.rt hg hA.2.2.1
  have hst := hA.2.2.2.1
  by_cases hk1 : isPl pl
  · skip
    obtain ⟨p, hp1, rfl⟩ := n_of (m := 1) (by decide) hk1
    have hp : p < 2 := by omega
    have e0 : zr_sure A (nI p) = if (zval 1 A p).1 = 1 then 1 else if (zval 3 A p).1 = 1 then 3 else if (zval 5 A p).1 = 1 then 5 else -1 := (if_neg (fun z => z hk1)).trans (by rw [show i2n (nI p) = p from nI_clamp (by omega)])
    rw [e0]
    refine KK_of2 [(0, .ref x), (1, .int (nI p))] (by decide +kernel) (Nat.le_of_ble_eq_true rfl) rfl ?_
    refine JJ_iload_n dX11_sure_0 rfl rfl ?_
    refine JJ_callS (rest := []) (kc_isPlayer) (by omega) mi_X11_isPlayer lk_X11_115 rfl (Nat.le_of_ble_eq_true rfl) rfl rfl dX11_sure_1 ?_
    intro v1 μ2 h3
    obtain ⟨rfl, rfl⟩ := h3
    refine JJ_r1 ?_
    refine JJ_eqi (x2 := 1) (b2_t hk1) ?_
    refine JJ_if_ne (tgt := 10) dX11_sure_4 (by decide) (fun _ => ?_) (fun c4 => absurd c4 (by decide))
    refine JJ_iconst (v := 1) dX11_sure_10 rfl ?_
    refine JJ_istore_n (lv' := [(2, .int 1), (0, .ref x), (1, .int (nI p))]) dX11_sure_11 rfl (by decide) rfl ?_
    refine JJ_iload_n dX11_sure_12 rfl rfl ?_
    refine JJ_iconst (v := 5) dX11_sure_13 rfl ?_
    refine JJ_icmp_gt (tgt := 40) dX11_sure_14 (by decide) (fun c5 => absurd c5 (by decide)) (fun _ => ?_)
    refine JJ_aload_n dX11_sure_17 rfl rfl ?_
    refine JJ_aload_n dX11_sure_18 rfl rfl ?_
    refine JJ_getr (q := x + 40) (cis := [11]) (k := 5) fa_X11_97 (by decide) (congrArg Prod.fst (hC.sh (t := 0) (k := 12) (m := 0) (by decide))) rfl (hC.rf (t := 0) (s := 5) (u := 40) (by decide)) dX11_sure_19 ?_
    refine JJ_iload_n dX11_sure_22 rfl rfl ?_
    refine JJ_iload_n dX11_sure_23 rfl rfl ?_
    refine JJ_iconst (v := 1) dX11_sure_24 rfl ?_
    refine JJ_callV (rest := []) (congrArg Prod.fst (hC.sh (t := 0) (k := 12) (m := 0) (by decide))) rfl rfl (kc_valueFor 1 (by omega) (x + 40) p 1 A M L P hp (Or.inr rfl) hct (Or.inl rfl) hA.2.2.1 hst hg2.r3 hC hX) (by omega) mi_X11_valueFor lk_X11_206 rfl (Nat.le_of_ble_eq_true rfl) rfl rfl dX11_sure_25 ?_
    intro v6 μ7 h8
    obtain ⟨r1, Mv1, Lv1, Pv1, rfl, rfl, hrv, -, hMv, hPv⟩ := h8
    refine JJ_r1 ?_
    have hrz1 : r1 = (zval 1 A p).1 := hrv.elim (fun y => y) (fun y => one_le (zval_3 1 A p hp hg) y.1 y.2)
    have hMq1 : ∀ b k, ¬ CQ x b k → Mv1 b k = M b k := fun b k z => hMv b k (fun y => z (y.q (by omega)))
    have hPq1 : ∀ b k, ¬ CQP x b k → Pv1 b k = P b k := fun b k z => hPv b k (fun y => z (y.q (by omega)))
    have hu1 : ∀ j, j < 9 → True := fun _ _ => trivial
    have hC1 : CWF x S Pv1 := hC.keep (fun b k _ _ z => hPq1 b k z)
    have hA1 : cABS x n S Pv1 Mv1 A := hA.keep h6 (fun b k _ _ z => hMq1 b k z) (fun b k _ _ z => hPq1 b k z) hu1
    refine JJ_iconst (v := 1) dX11_sure_28 rfl ?_
    refine JJ_icmp_ne (tgt := 34) dX11_sure_29 (by decide) (fun c9 => ?_) (fun c9 => ?_)
    · skip
      refine JJ_iinc (v := 3) (lv' := [(2, .int 3), (0, .ref x), (1, .int (nI p))]) dX11_sure_34 rfl (by decide) (by decide) rfl ?_
      refine JJ_goto (tgt := 12) dX11_sure_37 (by decide) ?_
      refine JJ_iload_n dX11_sure_12 rfl rfl ?_
      refine JJ_iconst (v := 5) dX11_sure_13 rfl ?_
      refine JJ_icmp_gt (tgt := 40) dX11_sure_14 (by decide) (fun c10 => absurd c10 (by decide)) (fun _ => ?_)
      refine JJ_aload_n dX11_sure_17 rfl rfl ?_
      refine JJ_aload_n dX11_sure_18 rfl rfl ?_
      refine JJ_getr (q := x + 40) (cis := [11]) (k := 5) fa_X11_97 (by decide) (congrArg Prod.fst (hC.sh (t := 0) (k := 12) (m := 0) (by decide))) rfl (hC1.rf (t := 0) (s := 5) (u := 40) (by decide)) dX11_sure_19 ?_
      refine JJ_iload_n dX11_sure_22 rfl rfl ?_
      refine JJ_iload_n dX11_sure_23 rfl rfl ?_
      refine JJ_iconst (v := 1) dX11_sure_24 rfl ?_
      refine JJ_callV (rest := []) (congrArg Prod.fst (hC.sh (t := 0) (k := 12) (m := 0) (by decide))) rfl rfl (kc_valueFor 3 (by omega) (x + 40) p 1 A Mv1 Lv1 Pv1 hp (Or.inr rfl) hA1.1 (Or.inl rfl) hA1.2.2.1 hA1.2.2.2.1 hg2.r3 hC1 hX) (by omega) mi_X11_valueFor lk_X11_206 rfl (Nat.le_of_ble_eq_true rfl) rfl rfl dX11_sure_25 ?_
      intro v11 μ12 h13
      obtain ⟨r2, Mv2, Lv2, Pv2, rfl, rfl, hrv, -, hMv, hPv⟩ := h13
      refine JJ_r1 ?_
      have hrz2 : r2 = (zval 3 A p).1 := hrv.elim (fun y => y) (fun y => one_le (zval_3 3 A p hp hg) y.1 y.2)
      have hMq2 : ∀ b k, ¬ CQ x b k → Mv2 b k = M b k := fun b k z => (hMv b k (fun y => z (y.q (by omega)))).trans (hMq1 b k z)
      have hPq2 : ∀ b k, ¬ CQP x b k → Pv2 b k = P b k := fun b k z => (hPv b k (fun y => z (y.q (by omega)))).trans (hPq1 b k z)
      have hu2 : ∀ j, j < 9 → True := fun _ _ => trivial
      have hC2 : CWF x S Pv2 := hC.keep (fun b k _ _ z => hPq2 b k z)
      have hA2 : cABS x n S Pv2 Mv2 A := hA.keep h6 (fun b k _ _ z => hMq2 b k z) (fun b k _ _ z => hPq2 b k z) hu2
      refine JJ_iconst (v := 1) dX11_sure_28 rfl ?_
      refine JJ_icmp_ne (tgt := 34) dX11_sure_29 (by decide) (fun c14 => ?_) (fun c14 => ?_)
      · skip
        refine JJ_iinc (v := 5) (lv' := [(2, .int 5), (0, .ref x), (1, .int (nI p))]) dX11_sure_34 rfl (by decide) (by decide) rfl ?_
        refine JJ_goto (tgt := 12) dX11_sure_37 (by decide) ?_
        refine JJ_iload_n dX11_sure_12 rfl rfl ?_
        refine JJ_iconst (v := 5) dX11_sure_13 rfl ?_
        refine JJ_icmp_gt (tgt := 40) dX11_sure_14 (by decide) (fun c15 => absurd c15 (by decide)) (fun _ => ?_)
        refine JJ_aload_n dX11_sure_17 rfl rfl ?_
        refine JJ_aload_n dX11_sure_18 rfl rfl ?_
        refine JJ_getr (q := x + 40) (cis := [11]) (k := 5) fa_X11_97 (by decide) (congrArg Prod.fst (hC.sh (t := 0) (k := 12) (m := 0) (by decide))) rfl (hC2.rf (t := 0) (s := 5) (u := 40) (by decide)) dX11_sure_19 ?_
        refine JJ_iload_n dX11_sure_22 rfl rfl ?_
        refine JJ_iload_n dX11_sure_23 rfl rfl ?_
        refine JJ_iconst (v := 1) dX11_sure_24 rfl ?_
        refine JJ_callV (rest := []) (congrArg Prod.fst (hC.sh (t := 0) (k := 12) (m := 0) (by decide))) rfl rfl (kc_valueFor 5 (by omega) (x + 40) p 1 A Mv2 Lv2 Pv2 hp (Or.inr rfl) hA2.1 (Or.inl rfl) hA2.2.2.1 hA2.2.2.2.1 hg2.r3 hC2 hX) (by omega) mi_X11_valueFor lk_X11_206 rfl (Nat.le_of_ble_eq_true rfl) rfl rfl dX11_sure_25 ?_
        intro v16 μ17 h18
        obtain ⟨r3, Mv3, Lv3, Pv3, rfl, rfl, hrv, -, hMv, hPv⟩ := h18
        refine JJ_r1 ?_
        have hrz3 : r3 = (zval 5 A p).1 := hrv.elim (fun y => y) (fun y => one_le (zval_3 5 A p hp hg) y.1 y.2)
        have hMq3 : ∀ b k, ¬ CQ x b k → Mv3 b k = M b k := fun b k z => (hMv b k (fun y => z (y.q (by omega)))).trans (hMq2 b k z)
        have hPq3 : ∀ b k, ¬ CQP x b k → Pv3 b k = P b k := fun b k z => (hPv b k (fun y => z (y.q (by omega)))).trans (hPq2 b k z)
        have hu3 : ∀ j, j < 9 → True := fun _ _ => trivial
        have hC3 : CWF x S Pv3 := hC.keep (fun b k _ _ z => hPq3 b k z)
        have hA3 : cABS x n S Pv3 Mv3 A := hA.keep h6 (fun b k _ _ z => hMq3 b k z) (fun b k _ _ z => hPq3 b k z) hu3
        refine JJ_iconst (v := 1) dX11_sure_28 rfl ?_
        refine JJ_icmp_ne (tgt := 34) dX11_sure_29 (by decide) (fun c19 => ?_) (fun c19 => ?_)
        · skip
          refine JJ_iinc (v := 7) (lv' := [(2, .int 7), (0, .ref x), (1, .int (nI p))]) dX11_sure_34 rfl (by decide) (by decide) rfl ?_
          refine JJ_goto (tgt := 12) dX11_sure_37 (by decide) ?_
          refine JJ_iload_n dX11_sure_12 rfl rfl ?_
          refine JJ_iconst (v := 5) dX11_sure_13 rfl ?_
          refine JJ_icmp_gt (tgt := 40) dX11_sure_14 (by decide) (fun _ => ?_) (fun c20 => absurd (by decide) c20)
          refine JJ_iconst (v := (-1)) dX11_sure_40 rfl ?_
          refine JJ_iret dX11_sure_41 rfl ?_
          exact cI_v (by rw [if_neg (fun y => c9 (hrz1.trans y)), if_neg (fun y => c14 (hrz2.trans y)), if_neg (fun y => c19 (hrz3.trans y))]) hA h6 hC hMq3 hPq3 hu3
        · skip
          refine JJ_iload_n dX11_sure_32 rfl rfl ?_
          refine JJ_iret dX11_sure_33 rfl ?_
          exact cI_v (by rw [if_neg (fun y => c9 (hrz1.trans y)), if_neg (fun y => c14 (hrz2.trans y)), if_pos (hrz3.symm.trans c19)]) hA h6 hC hMq3 hPq3 hu3
      · skip
        refine JJ_iload_n dX11_sure_32 rfl rfl ?_
        refine JJ_iret dX11_sure_33 rfl ?_
        exact cI_v (by rw [if_neg (fun y => c9 (hrz1.trans y)), if_pos (hrz2.symm.trans c14)]) hA h6 hC hMq2 hPq2 hu2
    · skip
      refine JJ_iload_n dX11_sure_32 rfl rfl ?_
      refine JJ_iret dX11_sure_33 rfl ?_
      exact cI_v (by rw [if_pos (hrz1.symm.trans c9)]) hA h6 hC hMq1 hPq1 hu1
  · skip
    have e0 : zr_sure A pl = -2 := if_pos hk1
    rw [e0]
    refine KK_of2 [(0, .ref x), (1, .int pl)] (by decide +kernel) (Nat.le_of_ble_eq_true rfl) rfl ?_
    refine JJ_iload_n dX11_sure_0 rfl rfl ?_
    refine JJ_callS (rest := []) (kc_isPlayer) (by omega) mi_X11_isPlayer lk_X11_115 rfl (Nat.le_of_ble_eq_true rfl) rfl rfl dX11_sure_1 ?_
    intro v21 μ22 h23
    obtain ⟨rfl, rfl⟩ := h23
    refine JJ_r1 ?_
    refine JJ_eqi (x2 := 0) (b2_f hk1) ?_
    refine JJ_if_ne (tgt := 10) dX11_sure_4 (by decide) (fun c24 => absurd (by decide) c24) (fun _ => ?_)
    refine JJ_bipush (v := (-2)) dX11_sure_7 rfl ?_
    refine JJ_iret dX11_sure_9 rfl ?_
    exact cI_q rfl hA hC
end C15
