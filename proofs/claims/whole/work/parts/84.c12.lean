section C12
variable {G : Gx} {sc : Nat → Nat → Prop} {n : Nat} {S : Nat → Nat × Nat} {M : Nat → Nat → Int32} {L : Nat → Nat → Int64} {P : Nat → Nat → Option Nat} {x : Nat} {A : Abs}

set_option maxHeartbeats 4000000 in
set_option maxRecDepth 100000 in
theorem kc_add {m : Nat} {v : Int32} (hm : M (x + 2) 1 = nI m) (h160 : m < 160) (hC : CWF x S P) (hX : HSC x sc) : KK G sc yX9_add cX9_add 2 (some .boolean) 0 0 0 [.ref (x + 2), .int v] (n, S, M, L, P) (fun u μ => u = some (.int 1) ∧ μ = (n, S, up2 (up2 M (x + 3) m v) (x + 2) 1 (nI (m + 1)), L, P)) := by
  refine KK_of2 [(0, .ref (x + 2)), (1, .int v)] (by decide +kernel) (Nat.le_of_ble_eq_true rfl) rfl ?_
  refine JJ_aload_n dX9_add_0 rfl rfl ?_
  refine JJ_geti (v := nI m) (cis := [9]) (k := 1) fa_X9_15 (by decide) (congrArg Prod.fst (hC.sh (t := 2) (k := 10) (m := 0) (by decide))) rfl (hX.1 _ _ (by omega) (by omega) (by omega)) hm dX9_add_1 ?_
  refine JJ_aload_n dX9_add_4 rfl rfl ?_
  refine JJ_getr (q := x + 3) (cis := [9]) (k := 0) fa_X9_9 (by decide) (congrArg Prod.fst (hC.sh (t := 2) (k := 10) (m := 0) (by decide))) rfl (hC.rf (t := 2) (s := 0) (u := 3) (by decide)) dX9_add_5 ?_
  refine JJ_alen (t := 0) (hC.sh (t := 3) (k := 20) (m := 160) (by decide)) (by decide) dX9_add_8 ?_
  refine JJ_icmp_lt (tgt := 14) dX9_add_9 (by decide) (fun _ => ?_) (fun c1 => absurd (nI_lt1 (by omega) (by omega)) c1)
  refine JJ_aload_n dX9_add_14 rfl rfl ?_
  refine JJ_getr (q := x + 3) (cis := [9]) (k := 0) fa_X9_9 (by decide) (congrArg Prod.fst (hC.sh (t := 2) (k := 10) (m := 0) (by decide))) rfl (hC.rf (t := 2) (s := 0) (u := 3) (by decide)) dX9_add_15 ?_
  refine JJ_aload_n dX9_add_18 rfl rfl ?_
  refine JJ_geti (v := nI m) (cis := [9]) (k := 1) fa_X9_15 (by decide) (congrArg Prod.fst (hC.sh (t := 2) (k := 10) (m := 0) (by decide))) rfl (hX.1 _ _ (by omega) (by omega) (by omega)) hm dX9_add_19 ?_
  refine JJ_iload_n dX9_add_22 rfl rfl ?_
  refine JJ_iastX (hC.sh (t := 3) (k := 20) (m := 160) (by decide)) (IX_nI (by omega) (by omega)) dX9_add_23 (fun M2 hM3 => ?_)
  refine JJ_aload_n dX9_add_24 rfl rfl ?_
  refine JJ_dup dX9_add_25 rfl ?_
  refine JJ_geti (v := nI m) (cis := [9]) (k := 1) fa_X9_15 (by decide) (congrArg Prod.fst (hC.sh (t := 2) (k := 10) (m := 0) (by decide))) rfl (hX.1 _ _ (by omega) (by omega) (by omega)) (rd_n hM3 (by omega) hm) dX9_add_26 ?_
  refine JJ_iconst (v := 1) dX9_add_29 rfl ?_
  refine JJ_iadd dX9_add_30 ?_
  refine JJ_eqi (x2 := nI (m + 1)) (nI_add (m) (1)) ?_
  refine JJ_puti (cis := [9]) (k := 1) fa_X9_15 (by decide) (congrArg Prod.fst (hC.sh (t := 2) (k := 10) (m := 0) (by decide))) rfl (fun r hr => by cases hr; exact ⟨rfl, by decide +kernel⟩) dX9_add_31 (fun M4 hM5 => ?_)
  refine JJ_iconst (v := 1) dX9_add_34 rfl ?_
  refine JJ_zret dX9_add_35 rfl (Or.inr rfl) ?_
  exact ⟨rfl, mem_eq (by rw [hM5, hM3])⟩
set_option maxHeartbeats 4000000 in
set_option maxRecDepth 100000 in
theorem kc_addF {v : Int32} (hm : M (x + 2) 1 = nI 160) (hC : CWF x S P) (hX : HSC x sc) : KK G sc yX9_add cX9_add 2 (some .boolean) 0 0 0 [.ref (x + 2), .int v] (n, S, M, L, P) (ansI 0 (n, S, M, L, P)) := by
  refine KK_of2 [(0, .ref (x + 2)), (1, .int v)] (by decide +kernel) (Nat.le_of_ble_eq_true rfl) rfl ?_
  refine JJ_aload_n dX9_add_0 rfl rfl ?_
  refine JJ_geti (v := nI 160) (cis := [9]) (k := 1) fa_X9_15 (by decide) (congrArg Prod.fst (hC.sh (t := 2) (k := 10) (m := 0) (by decide))) rfl (hX.1 _ _ (by omega) (by omega) (by omega)) hm dX9_add_1 ?_
  refine JJ_aload_n dX9_add_4 rfl rfl ?_
  refine JJ_getr (q := x + 3) (cis := [9]) (k := 0) fa_X9_9 (by decide) (congrArg Prod.fst (hC.sh (t := 2) (k := 10) (m := 0) (by decide))) rfl (hC.rf (t := 2) (s := 0) (u := 3) (by decide)) dX9_add_5 ?_
  refine JJ_alen (t := 0) (hC.sh (t := 3) (k := 20) (m := 160) (by decide)) (by decide) dX9_add_8 ?_
  refine JJ_icmp_lt (tgt := 14) dX9_add_9 (by decide) (fun c1 => absurd c1 (by decide)) (fun _ => ?_)
  refine JJ_iconst (v := 0) dX9_add_12 rfl ?_
  refine JJ_zret dX9_add_13 rfl (Or.inl rfl) ?_
  exact ans_i rfl
set_option maxHeartbeats 4000000 in
set_option maxRecDepth 100000 in
theorem kc_feed {b : Int32} (hA : cABS x n S P M A) (hg2 : RNG2 A) (hC : CWF x S P) (hX : HSC x sc) : KK G sc yX11_feed cX11_feed 2 (some .int) 1 0 0 [.ref x, .int b] (n, S, M, L, P) (cI x n S M P (.int (zr_feed A b).1) (zr_feed A b).2) := by
  have hg : RNG A := hg2.1
  have hrl := (rul_lt hg).1
  obtain ⟨cn, hc6, hcA, hcZ⟩ := cnt_e hg
  have h6 := (rul_lt hg).2
  have hct := hA.1
  have hrt := hct.rt hg hA.2.2.1
  have hst := hA.2.2.2.1
  obtain ⟨m, hm160, hm⟩ := hg2.2.2.2.2.1
  have hmM : M (x + 2) 1 = nI m := hA.2.2.2.2.2.1.1.trans hm
  have hmi : i2n (A.1 12 0) = m := by rw [hm]; exact nI_clamp (by omega)
  have z0 : (0 : Int32).toInt = 0 := rfl
  have z5 : (255 : Int32).toInt = 255 := rfl
  by_cases hk : 0 ≤ b.toInt ∧ b.toInt ≤ 255
  · skip
    have hb0 : ¬ b < 0 := fun y => by rw [i_lt] at y; omega
    have hb1 : b ≤ 255 := i_le.mpr (by omega)
    by_cases h160 : m = 160
    · skip
      subst h160
      have e0 : zr_feed A b = (-4, A) := (if_neg (fun z => z hk)).trans (if_pos hmi)
      rw [e0]
      refine KK_of2 [(0, .ref x), (1, .int b)] (by decide +kernel) (Nat.le_of_ble_eq_true rfl) rfl ?_
      refine JJ_iload_n dX11_feed_0 rfl rfl ?_
      refine JJ_if_lt (tgt := 11) dX11_feed_1 (by decide) (fun c1 => absurd c1 hb0) (fun _ => ?_)
      refine JJ_iload_n dX11_feed_4 rfl rfl ?_
      refine JJ_sipush (v := 255) dX11_feed_5 rfl ?_
      refine JJ_icmp_le (tgt := 14) dX11_feed_8 (by decide) (fun _ => ?_) (fun c2 => absurd hb1 c2)
      refine JJ_aload_n dX11_feed_14 rfl rfl ?_
      refine JJ_getr (q := x + 2) (cis := [11]) (k := 1) fa_X11_18 (by decide) (congrArg Prod.fst (hC.sh (t := 0) (k := 12) (m := 0) (by decide))) rfl (hC.rf (t := 0) (s := 1) (u := 2) (by decide)) dX11_feed_15 ?_
      refine JJ_iload_n dX11_feed_18 rfl rfl ?_
      refine JJ_callV (rest := []) (congrArg Prod.fst (hC.sh (t := 2) (k := 10) (m := 0) (by decide))) rfl rfl (kc_addF hmM hC hX) (by omega) mi_X9_add lk_X11_170 rfl (Nat.le_of_ble_eq_true rfl) rfl rfl dX11_feed_19 ?_
      intro v3 μ4 h5
      obtain ⟨rfl, rfl⟩ := h5
      refine JJ_r1 ?_
      refine JJ_if_eq (tgt := 35) dX11_feed_22 (by decide) (fun _ => ?_) (fun c6 => absurd (by decide) c6)
      refine JJ_bipush (v := (-4)) dX11_feed_35 rfl ?_
      refine JJ_iret dX11_feed_37 rfl ?_
      exact cI_q rfl hA hC
    · skip
      have e0 : zr_feed A b = (nI (m + 1), zUp (zUp A 11 m b) 12 0 (nI (m + 1))) := (if_neg (fun z => z hk)).trans ((if_neg (by rw [hmi]; exact h160)).trans (by rw [hmi]))
      rw [e0]
      refine KK_of2 [(0, .ref x), (1, .int b)] (by decide +kernel) (Nat.le_of_ble_eq_true rfl) rfl ?_
      refine JJ_iload_n dX11_feed_0 rfl rfl ?_
      refine JJ_if_lt (tgt := 11) dX11_feed_1 (by decide) (fun c7 => absurd c7 hb0) (fun _ => ?_)
      refine JJ_iload_n dX11_feed_4 rfl rfl ?_
      refine JJ_sipush (v := 255) dX11_feed_5 rfl ?_
      refine JJ_icmp_le (tgt := 14) dX11_feed_8 (by decide) (fun _ => ?_) (fun c8 => absurd hb1 c8)
      refine JJ_aload_n dX11_feed_14 rfl rfl ?_
      refine JJ_getr (q := x + 2) (cis := [11]) (k := 1) fa_X11_18 (by decide) (congrArg Prod.fst (hC.sh (t := 0) (k := 12) (m := 0) (by decide))) rfl (hC.rf (t := 0) (s := 1) (u := 2) (by decide)) dX11_feed_15 ?_
      refine JJ_iload_n dX11_feed_18 rfl rfl ?_
      refine JJ_callV (rest := []) (congrArg Prod.fst (hC.sh (t := 2) (k := 10) (m := 0) (by decide))) rfl rfl (kc_add hmM (by omega) hC hX) (by omega) mi_X9_add lk_X11_170 rfl (Nat.le_of_ble_eq_true rfl) rfl rfl dX11_feed_19 ?_
      intro v9 μ10 h11
      obtain ⟨rfl, rfl⟩ := h11
      refine JJ_r1 ?_
      refine JJ_if_eq (tgt := 35) dX11_feed_22 (by decide) (fun c12 => absurd c12 (by decide)) (fun _ => ?_)
      refine JJ_aload_n dX11_feed_25 rfl rfl ?_
      refine JJ_getr (q := x + 2) (cis := [11]) (k := 1) fa_X11_18 (by decide) (congrArg Prod.fst (hC.sh (t := 0) (k := 12) (m := 0) (by decide))) rfl (hC.rf (t := 0) (s := 1) (u := 2) (by decide)) dX11_feed_26 ?_
      refine JJ_geti (v := nI (m + 1)) (cis := [9]) (k := 1) fa_X11_91 (by decide) (congrArg Prod.fst (hC.sh (t := 2) (k := 10) (m := 0) (by decide))) rfl (hX.1 _ _ (by omega) (by omega) (by omega)) up2_s dX11_feed_29 ?_
      refine JJ_goto (tgt := 37) dX11_feed_32 (by decide) ?_
      refine JJ_iret dX11_feed_37 rfl ?_
      have hk0 : ∀ b' k, ¬ (b' = x + 3) → ¬ (b' = x + 2 ∧ k = 1) → (up2 (up2 M (x + 3) m b) (x + 2) 1 (nI (m + 1))) b' k = M b' k := fun b' k z1 z2 => (up2_n z2).trans (up2_n (by omega))
      have he : ∀ b' k, b' ≠ 11 → b' ≠ 12 → (zUp (zUp A 11 m b) 12 0 (nI (m + 1))).1 b' k = A.1 b' k := fun b' k z1 z2 => (zUp_n (by omega)).trans (zUp_n (by omega))
      have hs' : SHS x (up2 (up2 M (x + 3) m b) (x + 2) 1 (nI (m + 1))) (zUp (zUp A 11 m b) 12 0 (nI (m + 1))) := by
        intro s hs
        rw [he 16 s (by decide) (by decide), he 17 s (by decide) (by decide), he 18 s (by decide) (by decide)]
        have q := hA.2.2.2.2.1.keep (M' := (up2 (up2 M (x + 3) m b) (x + 2) 1 (nI (m + 1)))) (fun b' k z1 z2 => hk0 _ _ (by omega) (by omega)) s hs
        exact ⟨q.1, fun z => ⟨(q.2 z).1, fun j hj => by rw [he (20 + s) j (by omega) (by omega)]; exact (q.2 z).2 j hj⟩⟩
      have ht' : TPS x (up2 (up2 M (x + 3) m b) (x + 2) 1 (nI (m + 1))) (zUp (zUp A 11 m b) 12 0 (nI (m + 1))) := by
        refine ⟨up2_s.trans zUp_e.symm, fun i hi => ?_⟩
        rw [zUp_e, show i2n (nI (m + 1)) = m + 1 from nI_clamp (by omega)] at hi
        rw [up2_n (by omega), zUp_n (by omega)]
        by_cases e : i = m
        · rw [e, up2_s, zUp_e]
        · rw [up2_n (by omega), zUp_n (by omega)]
          exact hA.2.2.2.2.2.1.2 i (by rw [hmi]; omega)
      exact cI_m rfl (cABS_loc hA h6 (fun b' k _ _ _ _ z => hk0 _ _ (by omega) (by omega)) (fun b' k _ z1 z2 => he _ _ z1 z2) rfl hs' ht') hC (fun b' k z => hk0 _ _ (fun e => z (by unfold cF; omega)) (fun e => z (by unfold cF; omega)))
  · skip
    have e0 : zr_feed A b = (-2, A) := if_pos hk
    rw [e0]
    refine KK_of2 [(0, .ref x), (1, .int b)] (by decide +kernel) (Nat.le_of_ble_eq_true rfl) rfl ?_
    refine JJ_iload_n dX11_feed_0 rfl rfl ?_
    refine JJ_if_lt (tgt := 11) dX11_feed_1 (by decide) (fun c13 => ?_) (fun c13 => ?_)
    · skip
      refine JJ_bipush (v := (-2)) dX11_feed_11 rfl ?_
      refine JJ_iret dX11_feed_13 rfl ?_
      exact cI_q rfl hA hC
    · skip
      refine JJ_iload_n dX11_feed_4 rfl rfl ?_
      refine JJ_sipush (v := 255) dX11_feed_5 rfl ?_
      refine JJ_icmp_le (tgt := 14) dX11_feed_8 (by decide) (fun c14 => absurd c14 (fun y => by have y1 := c13; rw [i_lt] at y1; rw [i_le] at y; omega)) (fun _ => ?_)
      refine JJ_bipush (v := (-2)) dX11_feed_11 rfl ?_
      refine JJ_iret dX11_feed_13 rfl ?_
      exact cI_q rfl hA hC
set_option maxHeartbeats 4000000 in
set_option maxRecDepth 100000 in
theorem kc_Stroke_init_8 {a : Nat} {nb am : Int32} (ha : (S a).1 = 8 + 1) : KK G sc yX8_init cX8_init 3 none 1 0 0 [.ref a, .int nb, .int am] (n, S, M, L, P) (ansV (n, S, up2 (up2 M a 0 nb) a 1 am, L, P)) := by
  refine KK_of2 [(0, .ref a), (1, .int nb), (2, .int am)] (by decide +kernel) (Nat.le_of_ble_eq_true rfl) rfl ?_
  refine JJ_aload_n dX8_init_0 rfl rfl ?_
  refine JJ_objInit lk_X8_3 tb_92 tb_93 (Nat.le_of_ble_eq_true rfl) dX8_init_1 ?_
  refine JJ_aload_n dX8_init_4 rfl rfl ?_
  refine JJ_iload_n dX8_init_5 rfl rfl ?_
  refine JJ_puti (cis := [0, 2, 3, 4, 5, 8]) (k := 0) fa_X8_9 (by decide) ha rfl (fun r hr => by cases hr; exact ⟨rfl, by decide +kernel⟩) dX8_init_6 (fun M1 hM2 => ?_)
  refine JJ_aload_n dX8_init_9 rfl rfl ?_
  refine JJ_iload_n dX8_init_10 rfl rfl ?_
  refine JJ_puti (cis := [0, 2, 3, 4, 5, 8]) (k := 1) fa_X8_15 (by decide) ha rfl (fun r hr => by cases hr; exact ⟨rfl, by decide +kernel⟩) dX8_init_11 (fun M3 hM4 => ?_)
  refine JJ_vret dX8_init_14 rfl ?_
  exact ⟨rfl, mem_eq (by rw [hM4, hM2])⟩
set_option maxHeartbeats 4000000 in
set_option maxRecDepth 100000 in
theorem kc_Stroke_init_4 {a : Nat} {nb am : Int32} (ha : (S a).1 = 4 + 1) : KK G sc yX8_init cX8_init 3 none 1 0 0 [.ref a, .int nb, .int am] (n, S, M, L, P) (ansV (n, S, up2 (up2 M a 0 nb) a 1 am, L, P)) := by
  refine KK_of2 [(0, .ref a), (1, .int nb), (2, .int am)] (by decide +kernel) (Nat.le_of_ble_eq_true rfl) rfl ?_
  refine JJ_aload_n dX8_init_0 rfl rfl ?_
  refine JJ_objInit lk_X8_3 tb_92 tb_93 (Nat.le_of_ble_eq_true rfl) dX8_init_1 ?_
  refine JJ_aload_n dX8_init_4 rfl rfl ?_
  refine JJ_iload_n dX8_init_5 rfl rfl ?_
  refine JJ_puti (cis := [0, 2, 3, 4, 5, 8]) (k := 0) fa_X8_9 (by decide) ha rfl (fun r hr => by cases hr; exact ⟨rfl, by decide +kernel⟩) dX8_init_6 (fun M1 hM2 => ?_)
  refine JJ_aload_n dX8_init_9 rfl rfl ?_
  refine JJ_iload_n dX8_init_10 rfl rfl ?_
  refine JJ_puti (cis := [0, 2, 3, 4, 5, 8]) (k := 1) fa_X8_15 (by decide) ha rfl (fun r hr => by cases hr; exact ⟨rfl, by decide +kernel⟩) dX8_init_11 (fun M3 hM4 => ?_)
  refine JJ_vret dX8_init_14 rfl ?_
  exact ⟨rfl, mem_eq (by rw [hM4, hM2])⟩
set_option maxHeartbeats 4000000 in
set_option maxRecDepth 100000 in
theorem kc_Stroke_init_3 {a : Nat} {nb am : Int32} (ha : (S a).1 = 3 + 1) : KK G sc yX8_init cX8_init 3 none 1 0 0 [.ref a, .int nb, .int am] (n, S, M, L, P) (ansV (n, S, up2 (up2 M a 0 nb) a 1 am, L, P)) := by
  refine KK_of2 [(0, .ref a), (1, .int nb), (2, .int am)] (by decide +kernel) (Nat.le_of_ble_eq_true rfl) rfl ?_
  refine JJ_aload_n dX8_init_0 rfl rfl ?_
  refine JJ_objInit lk_X8_3 tb_92 tb_93 (Nat.le_of_ble_eq_true rfl) dX8_init_1 ?_
  refine JJ_aload_n dX8_init_4 rfl rfl ?_
  refine JJ_iload_n dX8_init_5 rfl rfl ?_
  refine JJ_puti (cis := [0, 2, 3, 4, 5, 8]) (k := 0) fa_X8_9 (by decide) ha rfl (fun r hr => by cases hr; exact ⟨rfl, by decide +kernel⟩) dX8_init_6 (fun M1 hM2 => ?_)
  refine JJ_aload_n dX8_init_9 rfl rfl ?_
  refine JJ_iload_n dX8_init_10 rfl rfl ?_
  refine JJ_puti (cis := [0, 2, 3, 4, 5, 8]) (k := 1) fa_X8_15 (by decide) ha rfl (fun r hr => by cases hr; exact ⟨rfl, by decide +kernel⟩) dX8_init_11 (fun M3 hM4 => ?_)
  refine JJ_vret dX8_init_14 rfl ?_
  exact ⟨rfl, mem_eq (by rw [hM4, hM2])⟩
set_option maxHeartbeats 4000000 in
set_option maxRecDepth 100000 in
theorem kc_Stroke_init_5 {a : Nat} {nb am : Int32} (ha : (S a).1 = 5 + 1) : KK G sc yX8_init cX8_init 3 none 1 0 0 [.ref a, .int nb, .int am] (n, S, M, L, P) (ansV (n, S, up2 (up2 M a 0 nb) a 1 am, L, P)) := by
  refine KK_of2 [(0, .ref a), (1, .int nb), (2, .int am)] (by decide +kernel) (Nat.le_of_ble_eq_true rfl) rfl ?_
  refine JJ_aload_n dX8_init_0 rfl rfl ?_
  refine JJ_objInit lk_X8_3 tb_92 tb_93 (Nat.le_of_ble_eq_true rfl) dX8_init_1 ?_
  refine JJ_aload_n dX8_init_4 rfl rfl ?_
  refine JJ_iload_n dX8_init_5 rfl rfl ?_
  refine JJ_puti (cis := [0, 2, 3, 4, 5, 8]) (k := 0) fa_X8_9 (by decide) ha rfl (fun r hr => by cases hr; exact ⟨rfl, by decide +kernel⟩) dX8_init_6 (fun M1 hM2 => ?_)
  refine JJ_aload_n dX8_init_9 rfl rfl ?_
  refine JJ_iload_n dX8_init_10 rfl rfl ?_
  refine JJ_puti (cis := [0, 2, 3, 4, 5, 8]) (k := 1) fa_X8_15 (by decide) ha rfl (fun r hr => by cases hr; exact ⟨rfl, by decide +kernel⟩) dX8_init_11 (fun M3 hM4 => ?_)
  refine JJ_vret dX8_init_14 rfl ?_
  exact ⟨rfl, mem_eq (by rw [hM4, hM2])⟩
set_option maxHeartbeats 4000000 in
set_option maxRecDepth 100000 in
theorem kc_Stroke_init_0 {a : Nat} {nb am : Int32} (ha : (S a).1 = 0 + 1) : KK G sc yX8_init cX8_init 3 none 1 0 0 [.ref a, .int nb, .int am] (n, S, M, L, P) (ansV (n, S, up2 (up2 M a 0 nb) a 1 am, L, P)) := by
  refine KK_of2 [(0, .ref a), (1, .int nb), (2, .int am)] (by decide +kernel) (Nat.le_of_ble_eq_true rfl) rfl ?_
  refine JJ_aload_n dX8_init_0 rfl rfl ?_
  refine JJ_objInit lk_X8_3 tb_92 tb_93 (Nat.le_of_ble_eq_true rfl) dX8_init_1 ?_
  refine JJ_aload_n dX8_init_4 rfl rfl ?_
  refine JJ_iload_n dX8_init_5 rfl rfl ?_
  refine JJ_puti (cis := [0, 2, 3, 4, 5, 8]) (k := 0) fa_X8_9 (by decide) ha rfl (fun r hr => by cases hr; exact ⟨rfl, by decide +kernel⟩) dX8_init_6 (fun M1 hM2 => ?_)
  refine JJ_aload_n dX8_init_9 rfl rfl ?_
  refine JJ_iload_n dX8_init_10 rfl rfl ?_
  refine JJ_puti (cis := [0, 2, 3, 4, 5, 8]) (k := 1) fa_X8_15 (by decide) ha rfl (fun r hr => by cases hr; exact ⟨rfl, by decide +kernel⟩) dX8_init_11 (fun M3 hM4 => ?_)
  refine JJ_vret dX8_init_14 rfl ?_
  exact ⟨rfl, mem_eq (by rw [hM4, hM2])⟩
set_option maxHeartbeats 4000000 in
set_option maxRecDepth 100000 in
theorem kc_Stroke_init_2 {a : Nat} {nb am : Int32} (ha : (S a).1 = 2 + 1) : KK G sc yX8_init cX8_init 3 none 1 0 0 [.ref a, .int nb, .int am] (n, S, M, L, P) (ansV (n, S, up2 (up2 M a 0 nb) a 1 am, L, P)) := by
  refine KK_of2 [(0, .ref a), (1, .int nb), (2, .int am)] (by decide +kernel) (Nat.le_of_ble_eq_true rfl) rfl ?_
  refine JJ_aload_n dX8_init_0 rfl rfl ?_
  refine JJ_objInit lk_X8_3 tb_92 tb_93 (Nat.le_of_ble_eq_true rfl) dX8_init_1 ?_
  refine JJ_aload_n dX8_init_4 rfl rfl ?_
  refine JJ_iload_n dX8_init_5 rfl rfl ?_
  refine JJ_puti (cis := [0, 2, 3, 4, 5, 8]) (k := 0) fa_X8_9 (by decide) ha rfl (fun r hr => by cases hr; exact ⟨rfl, by decide +kernel⟩) dX8_init_6 (fun M1 hM2 => ?_)
  refine JJ_aload_n dX8_init_9 rfl rfl ?_
  refine JJ_iload_n dX8_init_10 rfl rfl ?_
  refine JJ_puti (cis := [0, 2, 3, 4, 5, 8]) (k := 1) fa_X8_15 (by decide) ha rfl (fun r hr => by cases hr; exact ⟨rfl, by decide +kernel⟩) dX8_init_11 (fun M3 hM4 => ?_)
  refine JJ_vret dX8_init_14 rfl ?_
  exact ⟨rfl, mem_eq (by rw [hM4, hM2])⟩
set_option maxHeartbeats 4000000 in
set_option maxRecDepth 100000 in
theorem kc_Length_init_4 {a : Nat} {nb am : Int32} (ha : (S a).1 = 4 + 1) : KK G sc yX4_init cX4_init 3 none 2 0 0 [.ref a, .int nb, .int am] (n, S, M, L, P) (ansV (n, S, up2 (up2 M a 0 nb) a 1 am, L, P)) := by
  refine KK_of2 [(0, .ref a), (1, .int nb), (2, .int am)] (by decide +kernel) (Nat.le_of_ble_eq_true rfl) rfl ?_
  refine JJ_aload_n dX4_init_0 rfl rfl ?_
  refine JJ_iload_n dX4_init_1 rfl rfl ?_
  refine JJ_iload_n dX4_init_2 rfl rfl ?_
  refine JJ_callI (rest := []) rfl (kc_Stroke_init_4 ha) (by omega) mi_X8_init lk_X4_3 rfl (Nat.le_of_ble_eq_true rfl) rfl rfl dX4_init_3 ?_
  intro v1 μ2 h3
  obtain ⟨rfl, rfl⟩ := h3
  refine JJ_r0 ?_
  refine JJ_vret dX4_init_6 rfl ?_
  exact ⟨rfl, rfl⟩
set_option maxHeartbeats 4000000 in
set_option maxRecDepth 100000 in
theorem kc_Length_init_5 {a : Nat} {nb am : Int32} (ha : (S a).1 = 5 + 1) : KK G sc yX4_init cX4_init 3 none 2 0 0 [.ref a, .int nb, .int am] (n, S, M, L, P) (ansV (n, S, up2 (up2 M a 0 nb) a 1 am, L, P)) := by
  refine KK_of2 [(0, .ref a), (1, .int nb), (2, .int am)] (by decide +kernel) (Nat.le_of_ble_eq_true rfl) rfl ?_
  refine JJ_aload_n dX4_init_0 rfl rfl ?_
  refine JJ_iload_n dX4_init_1 rfl rfl ?_
  refine JJ_iload_n dX4_init_2 rfl rfl ?_
  refine JJ_callI (rest := []) rfl (kc_Stroke_init_5 ha) (by omega) mi_X8_init lk_X4_3 rfl (Nat.le_of_ble_eq_true rfl) rfl rfl dX4_init_3 ?_
  intro v1 μ2 h3
  obtain ⟨rfl, rfl⟩ := h3
  refine JJ_r0 ?_
  refine JJ_vret dX4_init_6 rfl ?_
  exact ⟨rfl, rfl⟩
set_option maxHeartbeats 4000000 in
set_option maxRecDepth 100000 in
theorem kc_Length_init_2 {a : Nat} {nb am : Int32} (ha : (S a).1 = 2 + 1) : KK G sc yX4_init cX4_init 3 none 2 0 0 [.ref a, .int nb, .int am] (n, S, M, L, P) (ansV (n, S, up2 (up2 M a 0 nb) a 1 am, L, P)) := by
  refine KK_of2 [(0, .ref a), (1, .int nb), (2, .int am)] (by decide +kernel) (Nat.le_of_ble_eq_true rfl) rfl ?_
  refine JJ_aload_n dX4_init_0 rfl rfl ?_
  refine JJ_iload_n dX4_init_1 rfl rfl ?_
  refine JJ_iload_n dX4_init_2 rfl rfl ?_
  refine JJ_callI (rest := []) rfl (kc_Stroke_init_2 ha) (by omega) mi_X8_init lk_X4_3 rfl (Nat.le_of_ble_eq_true rfl) rfl rfl dX4_init_3 ?_
  intro v1 μ2 h3
  obtain ⟨rfl, rfl⟩ := h3
  refine JJ_r0 ?_
  refine JJ_vret dX4_init_6 rfl ?_
  exact ⟨rfl, rfl⟩
set_option maxHeartbeats 4000000 in
set_option maxRecDepth 100000 in
theorem kc_Drop_init_3 {a : Nat} {nb am : Int32} (ha : (S a).1 = 3 + 1) : KK G sc yX3_init cX3_init 3 none 2 0 0 [.ref a, .int nb, .int am] (n, S, M, L, P) (ansV (n, S, up2 (up2 M a 0 nb) a 1 am, L, P)) := by
  refine KK_of2 [(0, .ref a), (1, .int nb), (2, .int am)] (by decide +kernel) (Nat.le_of_ble_eq_true rfl) rfl ?_
  refine JJ_aload_n dX3_init_0 rfl rfl ?_
  refine JJ_iload_n dX3_init_1 rfl rfl ?_
  refine JJ_iload_n dX3_init_2 rfl rfl ?_
  refine JJ_callI (rest := []) rfl (kc_Stroke_init_3 ha) (by omega) mi_X8_init lk_X3_3 rfl (Nat.le_of_ble_eq_true rfl) rfl rfl dX3_init_3 ?_
  intro v1 μ2 h3
  obtain ⟨rfl, rfl⟩ := h3
  refine JJ_r0 ?_
  refine JJ_vret dX3_init_6 rfl ?_
  exact ⟨rfl, rfl⟩
set_option maxHeartbeats 4000000 in
set_option maxRecDepth 100000 in
theorem kc_Drop_init_0 {a : Nat} {nb am : Int32} (ha : (S a).1 = 0 + 1) : KK G sc yX3_init cX3_init 3 none 2 0 0 [.ref a, .int nb, .int am] (n, S, M, L, P) (ansV (n, S, up2 (up2 M a 0 nb) a 1 am, L, P)) := by
  refine KK_of2 [(0, .ref a), (1, .int nb), (2, .int am)] (by decide +kernel) (Nat.le_of_ble_eq_true rfl) rfl ?_
  refine JJ_aload_n dX3_init_0 rfl rfl ?_
  refine JJ_iload_n dX3_init_1 rfl rfl ?_
  refine JJ_iload_n dX3_init_2 rfl rfl ?_
  refine JJ_callI (rest := []) rfl (kc_Stroke_init_0 ha) (by omega) mi_X8_init lk_X3_3 rfl (Nat.le_of_ble_eq_true rfl) rfl rfl dX3_init_3 ?_
  intro v1 μ2 h3
  obtain ⟨rfl, rfl⟩ := h3
  refine JJ_r0 ?_
  refine JJ_vret dX3_init_6 rfl ?_
  exact ⟨rfl, rfl⟩
set_option maxHeartbeats 4000000 in
set_option maxRecDepth 100000 in
theorem kc_Lob_init_5 {a : Nat} {nb am : Int32} (ha : (S a).1 = 5 + 1) : KK G sc yX5_init cX5_init 3 none 3 0 0 [.ref a, .int nb, .int am] (n, S, M, L, P) (ansV (n, S, up2 (up2 M a 0 nb) a 1 am, L, P)) := by
  refine KK_of2 [(0, .ref a), (1, .int nb), (2, .int am)] (by decide +kernel) (Nat.le_of_ble_eq_true rfl) rfl ?_
  refine JJ_aload_n dX5_init_0 rfl rfl ?_
  refine JJ_iload_n dX5_init_1 rfl rfl ?_
  refine JJ_iload_n dX5_init_2 rfl rfl ?_
  refine JJ_callI (rest := []) rfl (kc_Length_init_5 ha) (by omega) mi_X4_init lk_X5_3 rfl (Nat.le_of_ble_eq_true rfl) rfl rfl dX5_init_3 ?_
  intro v1 μ2 h3
  obtain ⟨rfl, rfl⟩ := h3
  refine JJ_r0 ?_
  refine JJ_vret dX5_init_6 rfl ?_
  exact ⟨rfl, rfl⟩
set_option maxHeartbeats 4000000 in
set_option maxRecDepth 100000 in
theorem kc_Boast_init_0 {a : Nat} {nb am : Int32} (ha : (S a).1 = 0 + 1) : KK G sc yX0_init cX0_init 3 none 3 0 0 [.ref a, .int nb, .int am] (n, S, M, L, P) (ansV (n, S, up2 (up2 M a 0 nb) a 1 am, L, P)) := by
  refine KK_of2 [(0, .ref a), (1, .int nb), (2, .int am)] (by decide +kernel) (Nat.le_of_ble_eq_true rfl) rfl ?_
  refine JJ_aload_n dX0_init_0 rfl rfl ?_
  refine JJ_iload_n dX0_init_1 rfl rfl ?_
  refine JJ_iload_n dX0_init_2 rfl rfl ?_
  refine JJ_callI (rest := []) rfl (kc_Drop_init_0 ha) (by omega) mi_X3_init lk_X0_3 rfl (Nat.le_of_ble_eq_true rfl) rfl rfl dX0_init_3 ?_
  intro v1 μ2 h3
  obtain ⟨rfl, rfl⟩ := h3
  refine JJ_r0 ?_
  refine JJ_vret dX0_init_6 rfl ?_
  exact ⟨rfl, rfl⟩
set_option maxHeartbeats 4000000 in
set_option maxRecDepth 100000 in
theorem kc_Cross_init_2 {a : Nat} {nb am : Int32} (ha : (S a).1 = 2 + 1) : KK G sc yX2_init cX2_init 3 none 3 0 0 [.ref a, .int nb, .int am] (n, S, M, L, P) (ansV (n, S, up2 (up2 M a 0 nb) a 1 am, L, P)) := by
  refine KK_of2 [(0, .ref a), (1, .int nb), (2, .int am)] (by decide +kernel) (Nat.le_of_ble_eq_true rfl) rfl ?_
  refine JJ_aload_n dX2_init_0 rfl rfl ?_
  refine JJ_iload_n dX2_init_1 rfl rfl ?_
  refine JJ_iload_n dX2_init_2 rfl rfl ?_
  refine JJ_callI (rest := []) rfl (kc_Length_init_2 ha) (by omega) mi_X4_init lk_X2_3 rfl (Nat.le_of_ble_eq_true rfl) rfl rfl dX2_init_3 ?_
  intro v1 μ2 h3
  obtain ⟨rfl, rfl⟩ := h3
  refine JJ_r0 ?_
  refine JJ_vret dX2_init_6 rfl ?_
  exact ⟨rfl, rfl⟩
set_option maxHeartbeats 4000000 in
set_option maxRecDepth 100000 in
theorem kc_newStroke {k : Nat} {nb am : Int32} (hk : k ≤ 5) : KK G sc yX11_newStroke cX11_newStroke 3 (some (.object "MiddleOfCourt$Stroke")) 4 1 2 [.int (nI k), .int nb, .int am] (n, S, M, L, P) (fun v μ => v = some (.ref n) ∧ ∃ S1 M1 L1 P1, μ = (n + 1, S1, M1, L1, P1) ∧ STK S1 M1 n (nI k) nb am ∧ ∀ b, b ≠ n → S1 b = S b ∧ P1 b = P b ∧ ∀ j, M1 b j = M b j) := by
  rcases (by omega : k = 0 ∨ k = 1 ∨ k = 2 ∨ k = 3 ∨ k = 4 ∨ k = 5) with rfl | rfl | rfl | rfl | rfl | rfl
  · skip
    refine KK_of2 [(0, .int 0), (1, .int nb), (2, .int am)] (by decide +kernel) (Nat.le_of_ble_eq_true rfl) rfl ?_
    refine JJ_iload_n dX11_newStroke_0 rfl rfl ?_
    refine JJ_tabOut (tgt := 86) dX11_newStroke_1 (by decide) (by decide) ?_
    refine JJ_new (ci := 8) (kc' := 0) (ks' := 0) rfl tb_129 tb_567 tb_77 rfl rfl dX11_newStroke_86 ?_
    refine JJ_gn (n1 := n + 1) rfl (fun Sn Mn Ln Pn hSn hMn hLn hPn => ?_)
    refine JJ_dup dX11_newStroke_89 rfl ?_
    refine JJ_iload_n dX11_newStroke_90 rfl rfl ?_
    refine JJ_iload_n dX11_newStroke_91 rfl rfl ?_
    refine JJ_callI (rest := [.ref n]) rfl (kc_Stroke_init_8 (congrArg Prod.fst (gS_s hSn))) (by omega) mi_X8_init lk_X11_304 rfl (Nat.le_of_ble_eq_true rfl) rfl rfl dX11_newStroke_92 ?_
    intro v1 μ2 h3
    obtain ⟨rfl, rfl⟩ := h3
    refine JJ_r0 ?_
    refine JJ_aret dX11_newStroke_95 rfl (Or.inr ⟨_, rfl⟩) ?_
    exact ⟨rfl, Sn, _, Ln, Pn, rfl, ⟨8, by decide, congrArg Prod.fst (gS_s hSn), rfl, (up2_n (by omega)).trans up2_s, up2_s⟩, fun b z => ⟨gS_n hSn z rfl, funext fun j => gR_n hPn z rfl, fun j => (up2_n (by omega)).trans ((up2_n (by omega)).trans (gR_n hMn z rfl))⟩⟩
  · skip
    refine KK_of2 [(0, .int 1), (1, .int nb), (2, .int am)] (by decide +kernel) (Nat.le_of_ble_eq_true rfl) rfl ?_
    refine JJ_iload_n dX11_newStroke_0 rfl rfl ?_
    refine JJ_tabIn (tgt := 36) (1) dX11_newStroke_1 rfl (by decide) rfl (by decide) ?_
    refine JJ_new (ci := 4) (kc' := 0) (ks' := 0) rfl tb_504 tb_505 tb_78 rfl rfl dX11_newStroke_36 ?_
    refine JJ_gn (n1 := n + 1) rfl (fun Sn Mn Ln Pn hSn hMn hLn hPn => ?_)
    refine JJ_dup dX11_newStroke_39 rfl ?_
    refine JJ_iload_n dX11_newStroke_40 rfl rfl ?_
    refine JJ_iload_n dX11_newStroke_41 rfl rfl ?_
    refine JJ_callI (rest := [.ref n]) rfl (kc_Length_init_4 (congrArg Prod.fst (gS_s hSn))) (by omega) mi_X4_init lk_X11_290 rfl (Nat.le_of_ble_eq_true rfl) rfl rfl dX11_newStroke_42 ?_
    intro v4 μ5 h6
    obtain ⟨rfl, rfl⟩ := h6
    refine JJ_r0 ?_
    refine JJ_aret dX11_newStroke_45 rfl (Or.inr ⟨_, rfl⟩) ?_
    exact ⟨rfl, Sn, _, Ln, Pn, rfl, ⟨4, by decide, congrArg Prod.fst (gS_s hSn), rfl, (up2_n (by omega)).trans up2_s, up2_s⟩, fun b z => ⟨gS_n hSn z rfl, funext fun j => gR_n hPn z rfl, fun j => (up2_n (by omega)).trans ((up2_n (by omega)).trans (gR_n hMn z rfl))⟩⟩
  · skip
    refine KK_of2 [(0, .int 2), (1, .int nb), (2, .int am)] (by decide +kernel) (Nat.le_of_ble_eq_true rfl) rfl ?_
    refine JJ_iload_n dX11_newStroke_0 rfl rfl ?_
    refine JJ_tabIn (tgt := 46) (2) dX11_newStroke_1 rfl (by decide) rfl (by decide) ?_
    refine JJ_new (ci := 3) (kc' := 0) (ks' := 0) rfl tb_531 tb_532 tb_79 rfl rfl dX11_newStroke_46 ?_
    refine JJ_gn (n1 := n + 1) rfl (fun Sn Mn Ln Pn hSn hMn hLn hPn => ?_)
    refine JJ_dup dX11_newStroke_49 rfl ?_
    refine JJ_iload_n dX11_newStroke_50 rfl rfl ?_
    refine JJ_iload_n dX11_newStroke_51 rfl rfl ?_
    refine JJ_callI (rest := [.ref n]) rfl (kc_Drop_init_3 (congrArg Prod.fst (gS_s hSn))) (by omega) mi_X3_init lk_X11_294 rfl (Nat.le_of_ble_eq_true rfl) rfl rfl dX11_newStroke_52 ?_
    intro v7 μ8 h9
    obtain ⟨rfl, rfl⟩ := h9
    refine JJ_r0 ?_
    refine JJ_aret dX11_newStroke_55 rfl (Or.inr ⟨_, rfl⟩) ?_
    exact ⟨rfl, Sn, _, Ln, Pn, rfl, ⟨3, by decide, congrArg Prod.fst (gS_s hSn), rfl, (up2_n (by omega)).trans up2_s, up2_s⟩, fun b z => ⟨gS_n hSn z rfl, funext fun j => gR_n hPn z rfl, fun j => (up2_n (by omega)).trans ((up2_n (by omega)).trans (gR_n hMn z rfl))⟩⟩
  · skip
    refine KK_of2 [(0, .int 3), (1, .int nb), (2, .int am)] (by decide +kernel) (Nat.le_of_ble_eq_true rfl) rfl ?_
    refine JJ_iload_n dX11_newStroke_0 rfl rfl ?_
    refine JJ_tabIn (tgt := 56) (3) dX11_newStroke_1 rfl (by decide) rfl (by decide) ?_
    refine JJ_new (ci := 5) (kc' := 0) (ks' := 0) rfl tb_540 tb_541 tb_80 rfl rfl dX11_newStroke_56 ?_
    refine JJ_gn (n1 := n + 1) rfl (fun Sn Mn Ln Pn hSn hMn hLn hPn => ?_)
    refine JJ_dup dX11_newStroke_59 rfl ?_
    refine JJ_iload_n dX11_newStroke_60 rfl rfl ?_
    refine JJ_iload_n dX11_newStroke_61 rfl rfl ?_
    refine JJ_callI (rest := [.ref n]) rfl (kc_Lob_init_5 (congrArg Prod.fst (gS_s hSn))) (by omega) mi_X5_init lk_X11_297 rfl (Nat.le_of_ble_eq_true rfl) rfl rfl dX11_newStroke_62 ?_
    intro v10 μ11 h12
    obtain ⟨rfl, rfl⟩ := h12
    refine JJ_r0 ?_
    refine JJ_aret dX11_newStroke_65 rfl (Or.inr ⟨_, rfl⟩) ?_
    exact ⟨rfl, Sn, _, Ln, Pn, rfl, ⟨5, by decide, congrArg Prod.fst (gS_s hSn), rfl, (up2_n (by omega)).trans up2_s, up2_s⟩, fun b z => ⟨gS_n hSn z rfl, funext fun j => gR_n hPn z rfl, fun j => (up2_n (by omega)).trans ((up2_n (by omega)).trans (gR_n hMn z rfl))⟩⟩
  · skip
    refine KK_of2 [(0, .int 4), (1, .int nb), (2, .int am)] (by decide +kernel) (Nat.le_of_ble_eq_true rfl) rfl ?_
    refine JJ_iload_n dX11_newStroke_0 rfl rfl ?_
    refine JJ_tabIn (tgt := 66) (4) dX11_newStroke_1 rfl (by decide) rfl (by decide) ?_
    refine JJ_new (ci := 0) (kc' := 0) (ks' := 0) rfl tb_549 tb_550 tb_81 rfl rfl dX11_newStroke_66 ?_
    refine JJ_gn (n1 := n + 1) rfl (fun Sn Mn Ln Pn hSn hMn hLn hPn => ?_)
    refine JJ_dup dX11_newStroke_69 rfl ?_
    refine JJ_iload_n dX11_newStroke_70 rfl rfl ?_
    refine JJ_iload_n dX11_newStroke_71 rfl rfl ?_
    refine JJ_callI (rest := [.ref n]) rfl (kc_Boast_init_0 (congrArg Prod.fst (gS_s hSn))) (by omega) mi_X0_init lk_X11_300 rfl (Nat.le_of_ble_eq_true rfl) rfl rfl dX11_newStroke_72 ?_
    intro v13 μ14 h15
    obtain ⟨rfl, rfl⟩ := h15
    refine JJ_r0 ?_
    refine JJ_aret dX11_newStroke_75 rfl (Or.inr ⟨_, rfl⟩) ?_
    exact ⟨rfl, Sn, _, Ln, Pn, rfl, ⟨0, by decide, congrArg Prod.fst (gS_s hSn), rfl, (up2_n (by omega)).trans up2_s, up2_s⟩, fun b z => ⟨gS_n hSn z rfl, funext fun j => gR_n hPn z rfl, fun j => (up2_n (by omega)).trans ((up2_n (by omega)).trans (gR_n hMn z rfl))⟩⟩
  · skip
    refine KK_of2 [(0, .int 5), (1, .int nb), (2, .int am)] (by decide +kernel) (Nat.le_of_ble_eq_true rfl) rfl ?_
    refine JJ_iload_n dX11_newStroke_0 rfl rfl ?_
    refine JJ_tabIn (tgt := 76) (5) dX11_newStroke_1 rfl (by decide) rfl (by decide) ?_
    refine JJ_new (ci := 2) (kc' := 0) (ks' := 0) rfl tb_558 tb_559 tb_82 rfl rfl dX11_newStroke_76 ?_
    refine JJ_gn (n1 := n + 1) rfl (fun Sn Mn Ln Pn hSn hMn hLn hPn => ?_)
    refine JJ_dup dX11_newStroke_79 rfl ?_
    refine JJ_iload_n dX11_newStroke_80 rfl rfl ?_
    refine JJ_iload_n dX11_newStroke_81 rfl rfl ?_
    refine JJ_callI (rest := [.ref n]) rfl (kc_Cross_init_2 (congrArg Prod.fst (gS_s hSn))) (by omega) mi_X2_init lk_X11_303 rfl (Nat.le_of_ble_eq_true rfl) rfl rfl dX11_newStroke_82 ?_
    intro v16 μ17 h18
    obtain ⟨rfl, rfl⟩ := h18
    refine JJ_r0 ?_
    refine JJ_aret dX11_newStroke_85 rfl (Or.inr ⟨_, rfl⟩) ?_
    exact ⟨rfl, Sn, _, Ln, Pn, rfl, ⟨2, by decide, congrArg Prod.fst (gS_s hSn), rfl, (up2_n (by omega)).trans up2_s, up2_s⟩, fun b z => ⟨gS_n hSn z rfl, funext fun j => gR_n hPn z rfl, fun j => (up2_n (by omega)).trans ((up2_n (by omega)).trans (gR_n hMn z rfl))⟩⟩
section JAS
variable {y : MethodName} {cc : ByteArray} {nL : Nat} {ret : Option FieldType} {d kc ks : Nat} {Φ : Option Value → Mem → Prop} {pc : Nat} {lv : List (Nat × Value)} {st : List Value}
theorem JJ_aastStk {a v m j : Nat} {i kd nb am : Int32} (hs : S a = (23, m)) (hin : IX i j m) (hv : STK S M v kd nb am) (hdg : decode cc pc = .ok (.aastore, 1)) (k : ∀ P1, P1 = up2 P a j (some v) → JJ G sc y cc nL ret d kc ks Φ (pc + 1) lv st (n, S, M, L, P1)) : JJ G sc y cc nL ret d kc ks Φ pc lv (.ref v :: .int i :: .ref a :: st) (n, S, M, L, P) := by
  obtain ⟨ci, hci, h, -, -, -⟩ := hv
  rcases hci with rfl | rfl | rfl | rfl | rfl | rfl
  · exact JJ_aastX (t := 1) hs (by decide) hin h (rfl : vwCl[0]? = some (RX0, TX0, 2)) (Or.inr ⟨RX8, rfl, by decide⟩) hdg k
  · exact JJ_aastX (t := 1) hs (by decide) hin h (rfl : vwCl[2]? = some (RX2, TX2, 2)) (Or.inr ⟨RX8, rfl, by decide⟩) hdg k
  · exact JJ_aastX (t := 1) hs (by decide) hin h (rfl : vwCl[3]? = some (RX3, TX3, 2)) (Or.inr ⟨RX8, rfl, by decide⟩) hdg k
  · exact JJ_aastX (t := 1) hs (by decide) hin h (rfl : vwCl[4]? = some (RX4, TX4, 2)) (Or.inr ⟨RX8, rfl, by decide⟩) hdg k
  · exact JJ_aastX (t := 1) hs (by decide) hin h (rfl : vwCl[5]? = some (RX5, TX5, 2)) (Or.inr ⟨RX8, rfl, by decide⟩) hdg k
  · exact JJ_aastX (t := 1) hs (by decide) hin h (rfl : vwCl[8]? = some (RX8, TX8, 2)) (Or.inl rfl) hdg k
end JAS
theorem CWF.more {S1 : Nat → Nat × Nat} {P1 : Nat → Nat → Option Nat} (h : CWF x S P) (hS : ∀ b, x ≤ b → b < x + 75 → S1 b = S b) (hP : ∀ b k, x ≤ b → b < x + 75 → b ≠ x + 4 → P1 b k = P b k) : CWF x S1 P1 := by
  obtain ⟨a1, a2, a3, a4, a5⟩ := h
  refine ⟨fun q hq => ?_, fun q hq => ?_, fun i hi => ?_, fun j hj => ?_, fun s hs => ?_⟩
  · rw [← a1 q hq]
    have hb : q.1 < 10 := by
      have : ∀ q ∈ CSh, q.1 < 10 := by decide
      exact this q hq
    exact hS _ (by omega) (by omega)
  · rw [← a2 q hq]
    have hb : q.1 < 10 ∧ q.1 ≠ 4 := by
      have : ∀ q ∈ CRf, q.1 < 10 ∧ q.1 ≠ 4 := by decide
      exact this q hq
    exact hP _ _ (by omega) (by omega) (by omega)
  · rw [hP _ 1 (by omega) (by omega) (by omega), hP _ 2 (by omega) (by omega) (by omega), hP _ 3 (by omega) (by omega) (by omega), hP _ 4 (by omega) (by omega) (by omega), hS _ (by omega) (by omega), hS _ (by omega) (by omega), hS _ (by omega) (by omega), hS _ (by omega) (by omega), hS _ (by omega) (by omega)]
    exact a3 i hi
  · rw [hP _ 0 (by omega) (by omega) (by omega), hP _ 1 (by omega) (by omega) (by omega), hS _ (by omega) (by omega), hS _ (by omega) (by omega), hS _ (by omega) (by omega)]
    exact a4 j hj
  · rw [hP _ 0 (by omega) (by omega) (by omega), hS _ (by omega) (by omega), hS _ (by omega) (by omega)]
    exact a5 s hs
/-- the state with one more stroke -/
def zNew (A : Abs) (c : Nat) (kind number aim : Int32) : Abs := zUp (zUp (zUp (zUp A 5 c kind) 6 c number) 7 c aim) 8 0 (nI (c + 1))
theorem zNew_o {c : Nat} {kind number aim : Int32} {b k : Nat} (h : ¬ ((b = 5 ∨ b = 6 ∨ b = 7) ∧ k = c) ∧ ¬ (b = 8 ∧ k = 0)) : (zNew A c kind number aim).1 b k = A.1 b k := by
  unfold zNew
  rw [zUp_n (by omega), zUp_n (by omega), zUp_n (by omega), zUp_n (by omega)]
theorem cABS_new {c : Nat} {kind number aim : Int32} {S1 : Nat → Nat × Nat} {M2 : Nat → Nat → Int32} {P2 : Nat → Nat → Option Nat} (h : cABS x n S P M A) (h6 : i2n (A.1 10 0) ≤ 6) (hc : zcnt A = c) (hc6 : c < 6) (hn : x + 94 ≤ n) (hst : STK S1 M2 n kind number aim)
    (hS : ∀ b, b ≠ n → S1 b = S b) (hM : ∀ b k, b ≠ n → ¬ (b = x ∧ k = 4) → M2 b k = M b k) (hP : ∀ b k, b ≠ n → ¬ (b = x + 4 ∧ k = c) → P2 b k = P b k) (hPc : P2 (x + 4) c = some n) (hM4 : M2 x 4 = nI (c + 1)) : cABS x (n + 1) S1 P2 M2 (zNew A c kind number aim) := by
  obtain ⟨a1, a2, a3, a4, a5, a6, a7, hu⟩ := h
  have ez : zcnt (zNew A c kind number aim) = c + 1 := by
    show i2n _ = _
    unfold zNew
    rw [zUp_e]
    exact nI_clamp (by omega)
  have e8 : (zNew A c kind number aim).1 8 0 = nI (c + 1) := zUp_e
  have kk : ∀ b k, b ≠ n → b ≠ x → M2 b k = M b k := fun b k z1 z2 => hM _ _ z1 (by omega)
  refine ⟨?_, ?_, ?_, ?_, ?_, ?_, ?_, fun j hj => ?_⟩
  · have := a1.keep (M' := M2) (P' := P2) (fun k => ⟨kk _ _ (by omega) (by omega), kk _ _ (by omega) (by omega), kk _ _ (by omega) (by omega)⟩) (hP _ _ (by omega) (by omega))
    unfold CTA at *
    rw [zNew_o (by omega), zNew_o (by omega)]
    refine ⟨this.1, fun p hp => ?_, this.2.2⟩
    rw [zNew_o (by omega), zNew_o (by omega), zNew_o (by omega), zNew_o (by omega)]
    exact this.2.1 p hp
  · rw [zNew_o (by omega), hM _ _ (by omega) (by omega)]; exact a2
  · have := a3.keep (M' := M2) (fun b k z1 z2 => kk _ _ (by omega) (by omega)) h6
    exact ⟨fun i hi => this.1 i (by rw [← zNew_o (A := A) (c := c) (kind := kind) (number := number) (aim := aim) (by omega)]; exact hi), this.2⟩
  · refine ⟨hM4.trans e8.symm, fun q hq => ?_, fun q u hq hu' e => ?_⟩
    · rw [ez] at hq
      by_cases e : q = c
      · subst e
        refine ⟨n, hPc, hn, by omega, ?_⟩
        have e5 : (zNew A q kind number aim).1 5 q = kind := by unfold zNew; rw [zUp_n (by omega), zUp_n (by omega), zUp_n (by omega)]; exact zUp_e
        have e6 : (zNew A q kind number aim).1 6 q = number := by unfold zNew; rw [zUp_n (by omega), zUp_n (by omega)]; exact zUp_e
        have e7 : (zNew A q kind number aim).1 7 q = aim := by unfold zNew; rw [zUp_n (by omega)]; exact zUp_e
        rw [e5, e6, e7]
        exact hst
      · obtain ⟨a, b1, b2, b3, ci, d1, d2, d3, d4, d5⟩ := a4.at (q := q) (by omega)
        refine ⟨a, (hP _ _ (by omega) (by omega)).trans b1, b2, by omega, ci, d1, by rw [hS a (by omega)]; exact d2, ?_, ?_, ?_⟩
        · rw [zNew_o (by omega)]; exact d3
        · rw [zNew_o (by omega), kk _ _ (by omega) (by omega)]; exact d4
        · rw [zNew_o (by omega), kk _ _ (by omega) (by omega)]; exact d5
    · rw [ez] at hq hu'
      by_cases e1 : q = c
      · by_cases e2 : u = c
        · omega
        · obtain ⟨a, b1, b2, b3, -⟩ := a4.at (q := u) (by omega)
          rw [e1, hPc, hP _ _ (by omega) (by omega), b1] at e
          exact absurd (Option.some.inj e) (by omega)
      · by_cases e2 : u = c
        · obtain ⟨a, b1, b2, b3, -⟩ := a4.at (q := q) (by omega)
          rw [e2, hPc, hP _ _ (by omega) (by omega), b1] at e
          exact absurd (Option.some.inj e) (by omega)
        · rw [hP _ _ (by omega) (by omega), hP _ _ (by omega) (by omega)] at e
          exact a4.2.2 q u (by omega) (by omega) e
  · have := a5.keep (M' := M2) (fun b k z1 z2 => kk _ _ (by omega) (by omega))
    intro s hs
    rw [zNew_o (by omega), zNew_o (by omega), zNew_o (by omega)]
    have z := this s hs
    refine ⟨z.1, fun y => ⟨(z.2 y).1, fun j hj => ?_⟩⟩
    rw [zNew_o (by omega)]
    exact (z.2 y).2 j hj
  · have := a6.keep (M' := M2) (kk _ _ (by omega) (by omega)) (fun k => kk _ _ (by omega) (by omega))
    unfold TPS at *
    rw [zNew_o (by omega)]
    refine ⟨this.1, fun i hi => ?_⟩
    rw [zNew_o (by omega)]
    exact this.2 i hi
  · have := a7.keep (M' := M2) (P' := P2) (hM _ _ (by omega) (by omega)) (fun b k z => kk _ _ (by omega) (by omega)) (hP _ _ (by omega) (by omega))
    unfold IMS at *
    rw [zNew_o (by omega), zNew_o (by omega), zNew_o (by omega)]
    refine ⟨this.1, fun z => ?_⟩
    obtain ⟨q1, q2, q3, q4⟩ := this.2 z
    refine ⟨fun p hp => ?_, q2, q3, fun q hq => ?_⟩
    · rw [zNew_o (by omega), zNew_o (by omega), zNew_o (by omega), zNew_o (by omega)]
      exact q1 p hp
    · rw [zNew_o (by omega), zNew_o (by omega)]
      exact q4 q hq
  · trivial
set_option maxHeartbeats 4000000 in
set_option maxRecDepth 100000 in
theorem kc_stroke {kind number aim : Int32} (hn : x + 94 ≤ n) (hA : cABS x n S P M A) (hg2 : RNG2 A) (hC : CWF x S P) (hX : HSC x sc) : KK G sc yX11_stroke cX11_stroke 4 (some .int) 5 1 2 [.ref x, .int kind, .int number, .int aim] (n, S, M, L, P) (cI x n S M P (.int (zr_stroke A kind number aim).1) (zr_stroke A kind number aim).2) := by
  have hg : RNG A := hg2.1
  have hrl := (rul_lt hg).1
  obtain ⟨cn, hc6, hcA, hcZ⟩ := cnt_e hg
  have h6 := (rul_lt hg).2
  have hct := hA.1
  have hrt := hct.rt hg hA.2.2.1
  have hst := hA.2.2.2.1
  have z0 : (0 : Int32).toInt = 0 := rfl
  have z5 : (5 : Int32).toInt = 5 := rfl
  have z9 : (9 : Int32).toInt = 9 := rfl
  have z6 : (6 : Int32).toInt = 6 := rfl
  by_cases hk : (0 ≤ kind.toInt ∧ kind.toInt ≤ 5) ∧ (0 ≤ number.toInt ∧ number.toInt ≤ 9) ∧ (0 ≤ aim.toInt ∧ aim.toInt ≤ 24)
  · skip
    obtain ⟨hk1, hk2, hk3⟩ := hk
    obtain ⟨k, hk5, rfl⟩ := n_of (m := 5) (by decide) hk1
    by_cases h6c : cn = 6
    · skip
      subst h6c
      have e0 : zr_stroke A (nI k) number aim = (-4, A) := (if_neg (fun z => z ⟨hk1, hk2, hk3⟩)).trans (if_pos hcZ)
      rw [e0]
      refine KK_of2 [(0, .ref x), (1, .int (nI k)), (2, .int number), (3, .int aim)] (by decide +kernel) (Nat.le_of_ble_eq_true rfl) rfl ?_
      refine JJ_iload_n dX11_stroke_0 rfl rfl ?_
      refine JJ_if_lt (tgt := 17) dX11_stroke_1 (by decide) (fun c1 => absurd c1 (fun y => by rw [i_lt] at y; omega)) (fun _ => ?_)
      refine JJ_iload_n dX11_stroke_4 rfl rfl ?_
      refine JJ_bipush (v := 9) dX11_stroke_5 rfl ?_
      refine JJ_icmp_gt (tgt := 17) dX11_stroke_7 (by decide) (fun c2 => absurd c2 (fun y => by rw [i_lt] at y; omega)) (fun _ => ?_)
      refine JJ_iload_n dX11_stroke_10 rfl rfl ?_
      refine JJ_callS (rest := []) (kc_isCell) (by omega) mi_X11_isCell lk_X11_134 rfl (Nat.le_of_ble_eq_true rfl) rfl rfl dX11_stroke_11 ?_
      intro v3 μ4 h5
      obtain ⟨rfl, rfl⟩ := h5
      refine JJ_r1 ?_
      refine JJ_eqi (x2 := 1) (b2_t hk3) ?_
      refine JJ_if_ne (tgt := 20) dX11_stroke_14 (by decide) (fun _ => ?_) (fun c6 => absurd c6 (by decide))
      refine JJ_iload_n dX11_stroke_20 rfl rfl ?_
      refine JJ_if_lt (tgt := 29) dX11_stroke_21 (by decide) (fun c7 => absurd c7 (nI_nn (by omega))) (fun _ => ?_)
      refine JJ_iload_n dX11_stroke_24 rfl rfl ?_
      refine JJ_iconst (v := 5) dX11_stroke_25 rfl ?_
      refine JJ_icmp_le (tgt := 32) dX11_stroke_26 (by decide) (fun _ => ?_) (fun c8 => absurd (nI_le (b := 5) (by omega) (by omega)) c8)
      refine JJ_aload_n dX11_stroke_32 rfl rfl ?_
      refine JJ_geti (v := nI 6) (cis := [11]) (k := 4) fa_X11_32 (by decide) (congrArg Prod.fst (hC.sh (t := 0) (k := 12) (m := 0) (by decide))) rfl (hX.1 _ _ (by omega) (by omega) (by omega)) (hst.1.trans hcA) dX11_stroke_33 ?_
      refine JJ_bipush (v := 6) dX11_stroke_36 rfl ?_
      refine JJ_icmp_lt (tgt := 44) dX11_stroke_38 (by decide) (fun c9 => absurd c9 (by decide)) (fun _ => ?_)
      refine JJ_bipush (v := (-4)) dX11_stroke_41 rfl ?_
      refine JJ_iret dX11_stroke_43 rfl ?_
      exact cI_q rfl hA hC
    · skip
      have hc5 : cn < 6 := by omega
      have e0 : zr_stroke A (nI k) number aim = (nI cn, zNew A cn (nI k) number aim) := (if_neg (fun z => z ⟨hk1, hk2, hk3⟩)).trans ((if_neg (by rw [hcZ]; exact h6c)).trans (by rw [hcZ]; rfl))
      rw [e0]
      have hcP : True := trivial
      refine KK_of2 [(0, .ref x), (1, .int (nI k)), (2, .int number), (3, .int aim)] (by decide +kernel) (Nat.le_of_ble_eq_true rfl) rfl ?_
      refine JJ_iload_n dX11_stroke_0 rfl rfl ?_
      refine JJ_if_lt (tgt := 17) dX11_stroke_1 (by decide) (fun c10 => absurd c10 (fun y => by rw [i_lt] at y; omega)) (fun _ => ?_)
      refine JJ_iload_n dX11_stroke_4 rfl rfl ?_
      refine JJ_bipush (v := 9) dX11_stroke_5 rfl ?_
      refine JJ_icmp_gt (tgt := 17) dX11_stroke_7 (by decide) (fun c11 => absurd c11 (fun y => by rw [i_lt] at y; omega)) (fun _ => ?_)
      refine JJ_iload_n dX11_stroke_10 rfl rfl ?_
      refine JJ_callS (rest := []) (kc_isCell) (by omega) mi_X11_isCell lk_X11_134 rfl (Nat.le_of_ble_eq_true rfl) rfl rfl dX11_stroke_11 ?_
      intro v12 μ13 h14
      obtain ⟨rfl, rfl⟩ := h14
      refine JJ_r1 ?_
      refine JJ_eqi (x2 := 1) (b2_t hk3) ?_
      refine JJ_if_ne (tgt := 20) dX11_stroke_14 (by decide) (fun _ => ?_) (fun c15 => absurd c15 (by decide))
      refine JJ_iload_n dX11_stroke_20 rfl rfl ?_
      refine JJ_if_lt (tgt := 29) dX11_stroke_21 (by decide) (fun c16 => absurd c16 (nI_nn (by omega))) (fun _ => ?_)
      refine JJ_iload_n dX11_stroke_24 rfl rfl ?_
      refine JJ_iconst (v := 5) dX11_stroke_25 rfl ?_
      refine JJ_icmp_le (tgt := 32) dX11_stroke_26 (by decide) (fun _ => ?_) (fun c17 => absurd (nI_le (b := 5) (by omega) (by omega)) c17)
      refine JJ_aload_n dX11_stroke_32 rfl rfl ?_
      refine JJ_geti (v := nI cn) (cis := [11]) (k := 4) fa_X11_32 (by decide) (congrArg Prod.fst (hC.sh (t := 0) (k := 12) (m := 0) (by decide))) rfl (hX.1 _ _ (by omega) (by omega) (by omega)) (hst.1.trans hcA) dX11_stroke_33 ?_
      refine JJ_bipush (v := 6) dX11_stroke_36 rfl ?_
      refine JJ_icmp_lt (tgt := 44) dX11_stroke_38 (by decide) (fun _ => ?_) (fun c18 => absurd (nI_lt1 (m := 6) (by omega) (by omega)) c18)
      refine JJ_aload_n dX11_stroke_44 rfl rfl ?_
      refine JJ_getr (q := x + 4) (cis := [11]) (k := 3) fa_X11_28 (by decide) (congrArg Prod.fst (hC.sh (t := 0) (k := 12) (m := 0) (by decide))) rfl (hC.rf (t := 0) (s := 3) (u := 4) (by decide)) dX11_stroke_45 ?_
      refine JJ_aload_n dX11_stroke_48 rfl rfl ?_
      refine JJ_geti (v := nI cn) (cis := [11]) (k := 4) fa_X11_32 (by decide) (congrArg Prod.fst (hC.sh (t := 0) (k := 12) (m := 0) (by decide))) rfl (hX.1 _ _ (by omega) (by omega) (by omega)) (hst.1.trans hcA) dX11_stroke_49 ?_
      refine JJ_iload_n dX11_stroke_52 rfl rfl ?_
      refine JJ_iload_n dX11_stroke_53 rfl rfl ?_
      refine JJ_iload_n dX11_stroke_54 rfl rfl ?_
      refine JJ_callS (rest := [.int (nI cn), .ref (x + 4)]) (kc_newStroke hk5) (by omega) mi_X11_newStroke lk_X11_137 rfl (Nat.le_of_ble_eq_true rfl) (show 0 + 1 = 1 from rfl) (show 0 + 2 = 2 from rfl) dX11_stroke_55 ?_
      intro v19 μ20 h21
      obtain ⟨rfl, Sn, Mn, Ln, Pn, rfl, hstk, hnf⟩ := h21
      refine JJ_r1 ?_
      have hSf : ∀ b, b ≠ n → Sn b = S b := fun b z => (hnf b z).1
      have hPf : ∀ b k, b ≠ n → Pn b k = P b k := fun b k z => congrFun (hnf b z).2.1 k
      have hMf : ∀ b k, b ≠ n → Mn b k = M b k := fun b k z => (hnf b z).2.2 k
      have hC1 : CWF x Sn Pn := hC.more (fun b z1 z2 => hSf b (by omega)) (fun b k z1 z2 _ => hPf b k (by omega))
      refine JJ_aastStk (hC1.sh (t := 4) (k := 23) (m := 6) (by decide)) (IX_nI (j := cn) (by omega) (by omega)) hstk dX11_stroke_58 (fun Pm hPm => ?_)
      have hC2 : CWF x Sn Pm := hC1.more (fun _ _ _ => rfl) (fun b k z1 z2 z3 => rd_n hPm (by omega) rfl)
      refine JJ_aload_n dX11_stroke_59 rfl rfl ?_
      refine JJ_dup dX11_stroke_60 rfl ?_
      refine JJ_geti (v := nI cn) (cis := [11]) (k := 4) fa_X11_32 (by decide) (congrArg Prod.fst (hC2.sh (t := 0) (k := 12) (m := 0) (by decide))) rfl (hX.1 _ _ (by omega) (by omega) (by omega)) ((hMf _ _ (by omega)).trans (hst.1.trans hcA)) dX11_stroke_61 ?_
      refine JJ_iconst (v := 1) dX11_stroke_64 rfl ?_
      refine JJ_iadd dX11_stroke_65 ?_
      refine JJ_eqi (x2 := nI (cn + 1)) (nI_add (cn) (1)) ?_
      refine JJ_puti (cis := [11]) (k := 4) fa_X11_32 (by decide) (congrArg Prod.fst (hC2.sh (t := 0) (k := 12) (m := 0) (by decide))) rfl (fun r hr => by cases hr; exact ⟨rfl, by decide +kernel⟩) dX11_stroke_66 (fun M22 hM23 => ?_)
      refine JJ_aload_n dX11_stroke_69 rfl rfl ?_
      refine JJ_geti (v := nI (cn + 1)) (cis := [11]) (k := 4) fa_X11_32 (by decide) (congrArg Prod.fst (hC2.sh (t := 0) (k := 12) (m := 0) (by decide))) rfl (hX.1 _ _ (by omega) (by omega) (by omega)) (rd_s hM23) dX11_stroke_70 ?_
      refine JJ_iconst (v := 1) dX11_stroke_73 rfl ?_
      refine JJ_isub dX11_stroke_74 ?_
      refine JJ_eqi (x2 := nI cn) (pk_sub (a := cn + 1) (b := 1) (by omega)) ?_
      refine JJ_iret dX11_stroke_75 rfl ?_
      have hM2 : ∀ b k, b ≠ n → ¬ (b = x ∧ k = 4) → M22 b k = M b k := fun b k z1 z2 => rd_n hM23 z2 (hMf b k z1)
      have hP2 : ∀ b k, b ≠ n → ¬ (b = x + 4 ∧ k = cn) → Pm b k = P b k := fun b k z1 z2 => rd_n hPm z2 (hPf b k z1)
      have hnew := cABS_new (M2 := M22) hA h6 hcZ hc5 hn (hstk.keep (rd_n hM23 (by omega) rfl) (rd_n hM23 (by omega) rfl)) hSf hM2 hP2 (rd_s hPm) (rd_s hM23)
      exact ⟨rfl, n + 1, Sn, M22, Ln, Pm, rfl, Nat.le_succ n, fun b z => hSf b (by omega), hC2, hnew, fun b k z => hM2 b k (fun e => z (by unfold cF; omega)) (fun e => z (by unfold cF; omega)), fun b k z => hP2 b k (fun e => z (by unfold cF; omega)) (fun e => z (by unfold cF; omega))⟩
  · skip
    have e0 : zr_stroke A kind number aim = (-2, A) := if_pos hk
    rw [e0]
    refine KK_of2 [(0, .ref x), (1, .int kind), (2, .int number), (3, .int aim)] (by decide +kernel) (Nat.le_of_ble_eq_true rfl) rfl ?_
    refine JJ_iload_n dX11_stroke_0 rfl rfl ?_
    refine JJ_if_lt (tgt := 17) dX11_stroke_1 (by decide) (fun c24 => ?_) (fun c24 => ?_)
    · skip
      refine JJ_bipush (v := (-2)) dX11_stroke_17 rfl ?_
      refine JJ_iret dX11_stroke_19 rfl ?_
      exact cI_q rfl hA hC
    · skip
      refine JJ_iload_n dX11_stroke_4 rfl rfl ?_
      refine JJ_bipush (v := 9) dX11_stroke_5 rfl ?_
      refine JJ_icmp_gt (tgt := 17) dX11_stroke_7 (by decide) (fun c25 => ?_) (fun c25 => ?_)
      · skip
        refine JJ_bipush (v := (-2)) dX11_stroke_17 rfl ?_
        refine JJ_iret dX11_stroke_19 rfl ?_
        exact cI_q rfl hA hC
      · skip
        refine JJ_iload_n dX11_stroke_10 rfl rfl ?_
        refine JJ_callS (rest := []) (kc_isCell) (by omega) mi_X11_isCell lk_X11_134 rfl (Nat.le_of_ble_eq_true rfl) rfl rfl dX11_stroke_11 ?_
        intro v26 μ27 h28
        obtain ⟨rfl, rfl⟩ := h28
        refine JJ_r1 ?_
        refine JJ_if_ne (tgt := 20) dX11_stroke_14 (by decide) (fun c29 => ?_) (fun c29 => ?_)
        · skip
          refine JJ_iload_n dX11_stroke_20 rfl rfl ?_
          refine JJ_if_lt (tgt := 29) dX11_stroke_21 (by decide) (fun c30 => ?_) (fun c30 => ?_)
          · skip
            refine JJ_bipush (v := (-2)) dX11_stroke_29 rfl ?_
            refine JJ_iret dX11_stroke_31 rfl ?_
            exact cI_q rfl hA hC
          · skip
            refine JJ_iload_n dX11_stroke_24 rfl rfl ?_
            refine JJ_iconst (v := 5) dX11_stroke_25 rfl ?_
            refine JJ_icmp_le (tgt := 32) dX11_stroke_26 (by decide) (fun c31 => absurd c31 (fun y => hk ⟨by have y1 := c30; rw [i_lt] at y1; rw [i_le] at y; omega, by have y1 := c24; have y2 := c25; rw [i_lt] at y1 y2; omega, b2_n.mp c29⟩)) (fun _ => ?_)
            refine JJ_bipush (v := (-2)) dX11_stroke_29 rfl ?_
            refine JJ_iret dX11_stroke_31 rfl ?_
            exact cI_q rfl hA hC
        · skip
          refine JJ_bipush (v := (-2)) dX11_stroke_17 rfl ?_
          refine JJ_iret dX11_stroke_19 rfl ?_
          exact cI_q rfl hA hC
end C12
