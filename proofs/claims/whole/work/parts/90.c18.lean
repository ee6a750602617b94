section C18
variable {G : Gx} {sc : Nat → Nat → Prop} {n : Nat} {S : Nat → Nat × Nat} {M : Nat → Nat → Int32} {L : Nat → Nat → Int64} {P : Nat → Nat → Option Nat} {x : Nat} {A : Abs}

theorem isSh_n {k : Nat} (hk : k < 4) : isSh (nI k) := ⟨by rw [nI_toInt (by omega)]; omega, by rw [nI_toInt (by omega)]; omega⟩
theorem rb_rwy {s : Int32} (hg2 : RNG2 A) (h : z_rb A s = 0) : ∃ k N, k < 4 ∧ s = nI k ∧ ¬ A.1 16 k = 0 ∧ RWY A k N := by
  obtain ⟨k, hk, e, h1, h2⟩ := rb_0 h
  obtain ⟨cn, hc6, hcA, hcZ⟩ := cnt_e hg2.1
  obtain ⟨-, N, hN, eN⟩ := (hg2.1.2.2.2.2.1 k hk).resolve_left h1
  refine ⟨k, N, hk, e, h1, eN, hN, fun j hj => ?_⟩
  obtain ⟨z1, z2⟩ := h2 j (by rw [eN]; show j < (nI N).toNatClampNeg; rw [nI_clamp (by omega)]; exact hj)
  rw [hcA, nI_toInt (by omega)] at z2
  refine ⟨(A.1 (20 + k) j).toInt.toNat, by omega, ?_⟩
  rw [i_eq, nI_toInt (by omega)]
  omega
set_option maxHeartbeats 4000000 in
set_option maxRecDepth 100000 in
theorem kc_inThought {k N : Nat} (hk : k < 4) (h16 : ¬ A.1 16 k = 0) (hr : RWY A k N) (hA : cABS x n S P M A) (hg2 : RNG2 A) (hC : CWF x S P) (hX : HSC x sc) : KK G sc yX11_playInThought cX11_playInThought 2 (some .int) 9 0 0 [.ref x, .int (nI k)] (n, S, M, L, P) (fun v μ => v = some (.int (sr_wins (z_fin A k))) ∧ ∃ M' L' P', μ = (n, S, M', L', P') ∧ CTA x (x + 43) P' M' (zPut A (z_st A k (z_fin A k).1)) ∧ M' x 14 = nI (z_fin A k).1 ∧ L' x 15 = z_lk A k (z_fin A k).1 ∧ M' x 16 = z_way A k (z_fin A k).1 ∧ (∀ i, i < (z_fin A k).1 → M' (x + 9) i = z_to A k i) ∧ (∀ b k, ¬ CQ x b k → M' b k = M b k) ∧ ∀ b k, ¬ CQP x b k → P' b k = P b k) := by
  have hg : RNG A := hg2.1
  have hrl := (rul_lt hg).1
  obtain ⟨cn, hc6, hcA, hcZ⟩ := cnt_e hg
  have h6 := (rul_lt hg).2
  have hct := hA.1
  have hrt := hct.rt hg hA.2.2.1
  have hst := hA.2.2.2.1
  obtain ⟨⟨N2, hN4, eN, hMN, hMI⟩, -, -⟩ := sh_there hk hg2 hA.2.2.2.2.1 h16
  have hNN : N2 = N := nI_inj (by omega) (by have := hr.2.1; omega) (eN.symm.trans hr.1)
  subst hNN
  have hC0 : CRT0 x (x + 43) := ⟨1, by decide, by omega⟩
  refine KK_of2 [(0, .ref x), (1, .int (nI k))] (by decide +kernel) (Nat.le_of_ble_eq_true rfl) rfl ?_
  refine JJ_aload_n dX11_playInThought_0 rfl rfl ?_
  refine JJ_getr (q := x + 43) (cis := [11]) (k := 6) fa_X11_101 (by decide) (congrArg Prod.fst (hC.sh (t := 0) (k := 12) (m := 0) (by decide))) rfl (hC.rf (t := 0) (s := 6) (u := 43) (by decide)) dX11_playInThought_1 ?_
  refine JJ_aload_n dX11_playInThought_4 rfl rfl ?_
  refine JJ_getr (q := x + 40) (cis := [11]) (k := 5) fa_X11_97 (by decide) (congrArg Prod.fst (hC.sh (t := 0) (k := 12) (m := 0) (by decide))) rfl (hC.rf (t := 0) (s := 5) (u := 40) (by decide)) dX11_playInThought_5 ?_
  refine JJ_callV (rest := []) (congrArg Prod.fst (hC.2.2.2.1 1 (by decide)).1) rfl rfl (kc_take (c := x + 43) (e := x + 40) (by omega) hC0 hct.1 hct.2.2.2 hC hX) (by omega) mi_X1_take lk_X11_245 rfl (Nat.le_of_ble_eq_true rfl) rfl rfl dX11_playInThought_8 ?_
  intro v1 μ2 h3
  obtain ⟨rfl, Ma, Pa, rfl, htk1, htk2, htk3, htk4⟩ := h3
  refine JJ_r0 ?_
  have hPa : ∀ b k, ¬ CQP x b k → Pa b k = P b k := fun b k z => rd_n htk4 (fun e => z (by unfold CQP; omega)) rfl
  have hMa : ∀ b k, ¬ CQ x b k → Ma b k = M b k := fun b k z => htk3 b k (by unfold CQ at z; omega)
  have hctA : CTA x (x + 43) Pa Ma A := CTA_take hct hC0 htk1 htk2 htk4
  have hCa : CWF x S Pa := hC.keep (fun b k _ _ z => hPa b k z)
  have htA : TXS x Ma A := hA.2.2.1.keep (fun b k z1 z2 => hMa b k (by unfold CQ; omega)) h6
  have hstA : STS x n S Pa Ma A := hst.keep (hMa _ _ (by unfold CQ; omega)) (fun b k z => hMa b k (by unfold CQ; omega)) (fun k => hPa _ _ (by unfold CQP; omega))
  refine JJ_aload_n dX11_playInThought_11 rfl rfl ?_
  refine JJ_aload_n dX11_playInThought_12 rfl rfl ?_
  refine JJ_getr (q := x + 43) (cis := [11]) (k := 6) fa_X11_101 (by decide) (congrArg Prod.fst (hC.sh (t := 0) (k := 12) (m := 0) (by decide))) rfl (hCa.rf (t := 0) (s := 6) (u := 43) (by decide)) dX11_playInThought_13 ?_
  refine JJ_aload_n dX11_playInThought_16 rfl rfl ?_
  refine JJ_iload_n dX11_playInThought_17 rfl rfl ?_
  refine JJ_callV (rest := [.ref (x + 43), .ref x]) (congrArg Prod.fst (hC.sh (t := 0) (k := 12) (m := 0) (by decide))) rfl rfl (kc_sheetAt hk hCa hX) (by omega) mi_X11_sheetAt lk_X11_196 rfl (Nat.le_of_ble_eq_true rfl) rfl rfl dX11_playInThought_18 ?_
  intro v4 μ5 h6
  obtain ⟨rfl, rfl⟩ := h6
  refine JJ_r1 ?_
  refine JJ_callV (rest := []) (congrArg Prod.fst (hC.sh (t := 0) (k := 12) (m := 0) (by decide))) rfl rfl (kc_playOut (c := x + 43) hk hr ((hMa _ _ (by unfold CQ; omega)).trans hMN) (fun j hj => (hMa _ _ (by unfold CQ; omega)).trans (hMI j hj)) hctA htA hstA hg2.r3 hCa hX) (by omega) mi_X11_playOut lk_X11_200 rfl (Nat.le_of_ble_eq_true rfl) rfl rfl dX11_playInThought_21 ?_
  intro v7 μ8 h9
  obtain ⟨rfl, Mb, Lb, rfl, b1, b2, b3, b4, b5, b6⟩ := h9
  refine JJ_r1 ?_
  refine JJ_iret dX11_playInThought_24 rfl ?_
  exact ⟨rfl, Mb, Lb, Pa, rfl, b1, b2, b3, b4, b5, fun b k z => (b6 b k (fun e => z (by unfold PQ CD at e; unfold CQ; omega))).trans (hMa b k z), hPa⟩
set_option maxHeartbeats 4000000 in
set_option maxRecDepth 100000 in
theorem kc_rally {s what : Int32} (hA : cABS x n S P M A) (hg2 : RNG2 A) (hC : CWF x S P) (hX : HSC x sc) : KK G sc yX11_rally cX11_rally 5 (some .int) 11 0 0 [.ref x, .int s, .int what] (n, S, M, L, P) (cI x n S M P (.int (zr_rally A s what)) A) := by
  have hg : RNG A := hg2.1
  have hrl := (rul_lt hg).1
  obtain ⟨cn, hc6, hcA, hcZ⟩ := cnt_e hg
  have h6 := (rul_lt hg).2
  have hct := hA.1
  have hrt := hct.rt hg hA.2.2.1
  have hst := hA.2.2.2.1
  have z0 : (0 : Int32).toInt = 0 := rfl
  have z6 : (6 : Int32).toInt = 6 := rfl
  by_cases hw : 0 ≤ what.toInt ∧ what.toInt ≤ 6
  · skip
    obtain ⟨v, hv6, rfl⟩ := n_of (m := 6) (by decide) hw
    rcases (by omega : v = 0 ∨ v = 1 ∨ v = 2 ∨ v = 3 ∨ v = 4 ∨ v = 5 ∨ v = 6) with rfl | rfl | rfl | rfl | rfl | rfl | rfl
    · skip
      refine KK_of2 [(0, .ref x), (1, .int s), (2, .int 0)] (by decide +kernel) (Nat.le_of_ble_eq_true rfl) rfl ?_
      refine JJ_iload_n dX11_rally_0 rfl rfl ?_
      refine JJ_if_lt (tgt := 10) dX11_rally_1 (by decide) (fun c1 => absurd c1 (by decide)) (fun _ => ?_)
      refine JJ_iload_n dX11_rally_4 rfl rfl ?_
      refine JJ_bipush (v := 6) dX11_rally_5 rfl ?_
      refine JJ_icmp_le (tgt := 13) dX11_rally_7 (by decide) (fun _ => ?_) (fun c2 => absurd (by decide) c2)
      refine JJ_aload_n dX11_rally_13 rfl rfl ?_
      refine JJ_iload_n dX11_rally_14 rfl rfl ?_
      refine JJ_callV (rest := []) (congrArg Prod.fst (hC.sh (t := 0) (k := 12) (m := 0) (by decide))) rfl rfl (kc_refusal hA hg2 hC hX) (by omega) mi_X11_refusalOfRally lk_X11_180 rfl (Nat.le_of_ble_eq_true rfl) rfl rfl dX11_rally_15 ?_
      intro v3 μ4 h5
      obtain ⟨rfl, rfl⟩ := h5
      refine JJ_r1 ?_
      refine JJ_istore_n (lv' := [(3, .int (z_rb A s)), (0, .ref x), (1, .int s), (2, .int 0)]) dX11_rally_18 rfl (by decide) rfl ?_
      refine JJ_iload_n dX11_rally_19 rfl rfl ?_
      refine JJ_if_eq (tgt := 25) dX11_rally_20 (by decide) (fun c6 => ?_) (fun c6 => ?_)
      · skip
        obtain ⟨k, N, hk, rfl, h16, hr⟩ := rb_rwy hg2 c6
        have hrb := c6
        have hik : i2n (nI k) = k := nI_clamp (by omega)
        have e0 : zr_rally A (nI k) (nI 0) = s_what (z_fin A k) (z_st A k (z_fin A k).1) 0 := (if_neg (fun z => z ⟨isSh_n hk, by decide⟩)).trans ((if_pos hrb).trans (by rw [hik]; rfl))
        refine JJ_aload_n dX11_rally_25 rfl rfl ?_
        refine JJ_iload_n dX11_rally_26 rfl rfl ?_
        refine JJ_callV (rest := []) (congrArg Prod.fst (hC.sh (t := 0) (k := 12) (m := 0) (by decide))) rfl rfl (kc_inThought hk h16 hr hA hg2 hC hX) (by omega) mi_X11_playInThought lk_X11_183 rfl (Nat.le_of_ble_eq_true rfl) rfl rfl dX11_rally_27 ?_
        intro v7 μ8 h9
        obtain ⟨rfl, Mb, Lb, Pb, rfl, b1, b2, b3, b4, b5, b6, b7⟩ := h9
        refine JJ_r1 ?_
        have hCb : CWF x S Pb := hC.keep (fun b k _ _ z => b7 b k z)
        refine JJ_istore (lv' := [(4, .int (sr_wins (z_fin A k))), (3, .int (z_rb A (nI k))), (0, .ref x), (1, .int (nI k)), (2, .int 0)]) dX11_rally_30 (by decide) rfl ?_
        refine JJ_iload_n dX11_rally_32 rfl rfl ?_
        refine JJ_tabIn (tgt := 72) (0) dX11_rally_33 rfl (by decide) rfl (by decide) ?_
        refine JJ_iload dX11_rally_72 rfl ?_
        refine JJ_iret dX11_rally_74 rfl ?_
        exact cI_v (by rw [e0]; exact congrArg Value.int (by show _ = s_what _ _ 0; exact rfl)) hA h6 hC b6 b7 (fun _ _ => trivial)
      · skip
        refine JJ_iload_n dX11_rally_23 rfl rfl ?_
        refine JJ_iret dX11_rally_24 rfl ?_
        have e0 : zr_rally A s (nI 0) = z_rb A s := by
          unfold zr_rally
          by_cases hs : isSh s
          · rw [if_neg (fun z => z ⟨hs, by decide⟩), if_neg c6]
          · rw [if_pos (fun z => hs z.1)]; exact (rb_1 hs).symm
        exact cI_q (by rw [e0]) hA hC
    · skip
      refine KK_of2 [(0, .ref x), (1, .int s), (2, .int 1)] (by decide +kernel) (Nat.le_of_ble_eq_true rfl) rfl ?_
      refine JJ_iload_n dX11_rally_0 rfl rfl ?_
      refine JJ_if_lt (tgt := 10) dX11_rally_1 (by decide) (fun c10 => absurd c10 (by decide)) (fun _ => ?_)
      refine JJ_iload_n dX11_rally_4 rfl rfl ?_
      refine JJ_bipush (v := 6) dX11_rally_5 rfl ?_
      refine JJ_icmp_le (tgt := 13) dX11_rally_7 (by decide) (fun _ => ?_) (fun c11 => absurd (by decide) c11)
      refine JJ_aload_n dX11_rally_13 rfl rfl ?_
      refine JJ_iload_n dX11_rally_14 rfl rfl ?_
      refine JJ_callV (rest := []) (congrArg Prod.fst (hC.sh (t := 0) (k := 12) (m := 0) (by decide))) rfl rfl (kc_refusal hA hg2 hC hX) (by omega) mi_X11_refusalOfRally lk_X11_180 rfl (Nat.le_of_ble_eq_true rfl) rfl rfl dX11_rally_15 ?_
      intro v12 μ13 h14
      obtain ⟨rfl, rfl⟩ := h14
      refine JJ_r1 ?_
      refine JJ_istore_n (lv' := [(3, .int (z_rb A s)), (0, .ref x), (1, .int s), (2, .int 1)]) dX11_rally_18 rfl (by decide) rfl ?_
      refine JJ_iload_n dX11_rally_19 rfl rfl ?_
      refine JJ_if_eq (tgt := 25) dX11_rally_20 (by decide) (fun c15 => ?_) (fun c15 => ?_)
      · skip
        obtain ⟨k, N, hk, rfl, h16, hr⟩ := rb_rwy hg2 c15
        have hrb := c15
        have hik : i2n (nI k) = k := nI_clamp (by omega)
        have e0 : zr_rally A (nI k) (nI 1) = s_what (z_fin A k) (z_st A k (z_fin A k).1) 1 := (if_neg (fun z => z ⟨isSh_n hk, by decide⟩)).trans ((if_pos hrb).trans (by rw [hik]; rfl))
        refine JJ_aload_n dX11_rally_25 rfl rfl ?_
        refine JJ_iload_n dX11_rally_26 rfl rfl ?_
        refine JJ_callV (rest := []) (congrArg Prod.fst (hC.sh (t := 0) (k := 12) (m := 0) (by decide))) rfl rfl (kc_inThought hk h16 hr hA hg2 hC hX) (by omega) mi_X11_playInThought lk_X11_183 rfl (Nat.le_of_ble_eq_true rfl) rfl rfl dX11_rally_27 ?_
        intro v16 μ17 h18
        obtain ⟨rfl, Mb, Lb, Pb, rfl, b1, b2, b3, b4, b5, b6, b7⟩ := h18
        refine JJ_r1 ?_
        have hCb : CWF x S Pb := hC.keep (fun b k _ _ z => b7 b k z)
        refine JJ_istore (lv' := [(4, .int (sr_wins (z_fin A k))), (3, .int (z_rb A (nI k))), (0, .ref x), (1, .int (nI k)), (2, .int 1)]) dX11_rally_30 (by decide) rfl ?_
        refine JJ_iload_n dX11_rally_32 rfl rfl ?_
        refine JJ_tabIn (tgt := 75) (1) dX11_rally_33 rfl (by decide) rfl (by decide) ?_
        refine JJ_aload_n dX11_rally_75 rfl rfl ?_
        refine JJ_geti (v := Mb x 14) (cis := [11]) (k := 14) fa_X11_60 (by decide) (congrArg Prod.fst (hC.sh (t := 0) (k := 12) (m := 0) (by decide))) rfl (hX.1 _ _ (by omega) (by omega) (by omega)) rfl dX11_rally_76 ?_
        refine JJ_iret dX11_rally_79 rfl ?_
        exact cI_v (by rw [e0]; exact congrArg Value.int (by show _ = s_what _ _ 1; exact (b2).trans rfl)) hA h6 hC b6 b7 (fun _ _ => trivial)
      · skip
        refine JJ_iload_n dX11_rally_23 rfl rfl ?_
        refine JJ_iret dX11_rally_24 rfl ?_
        have e0 : zr_rally A s (nI 1) = z_rb A s := by
          unfold zr_rally
          by_cases hs : isSh s
          · rw [if_neg (fun z => z ⟨hs, by decide⟩), if_neg c15]
          · rw [if_pos (fun z => hs z.1)]; exact (rb_1 hs).symm
        exact cI_q (by rw [e0]) hA hC
    · skip
      refine KK_of2 [(0, .ref x), (1, .int s), (2, .int 2)] (by decide +kernel) (Nat.le_of_ble_eq_true rfl) rfl ?_
      refine JJ_iload_n dX11_rally_0 rfl rfl ?_
      refine JJ_if_lt (tgt := 10) dX11_rally_1 (by decide) (fun c19 => absurd c19 (by decide)) (fun _ => ?_)
      refine JJ_iload_n dX11_rally_4 rfl rfl ?_
      refine JJ_bipush (v := 6) dX11_rally_5 rfl ?_
      refine JJ_icmp_le (tgt := 13) dX11_rally_7 (by decide) (fun _ => ?_) (fun c20 => absurd (by decide) c20)
      refine JJ_aload_n dX11_rally_13 rfl rfl ?_
      refine JJ_iload_n dX11_rally_14 rfl rfl ?_
      refine JJ_callV (rest := []) (congrArg Prod.fst (hC.sh (t := 0) (k := 12) (m := 0) (by decide))) rfl rfl (kc_refusal hA hg2 hC hX) (by omega) mi_X11_refusalOfRally lk_X11_180 rfl (Nat.le_of_ble_eq_true rfl) rfl rfl dX11_rally_15 ?_
      intro v21 μ22 h23
      obtain ⟨rfl, rfl⟩ := h23
      refine JJ_r1 ?_
      refine JJ_istore_n (lv' := [(3, .int (z_rb A s)), (0, .ref x), (1, .int s), (2, .int 2)]) dX11_rally_18 rfl (by decide) rfl ?_
      refine JJ_iload_n dX11_rally_19 rfl rfl ?_
      refine JJ_if_eq (tgt := 25) dX11_rally_20 (by decide) (fun c24 => ?_) (fun c24 => ?_)
      · skip
        obtain ⟨k, N, hk, rfl, h16, hr⟩ := rb_rwy hg2 c24
        have hrb := c24
        have hik : i2n (nI k) = k := nI_clamp (by omega)
        have e0 : zr_rally A (nI k) (nI 2) = s_what (z_fin A k) (z_st A k (z_fin A k).1) 2 := (if_neg (fun z => z ⟨isSh_n hk, by decide⟩)).trans ((if_pos hrb).trans (by rw [hik]; rfl))
        refine JJ_aload_n dX11_rally_25 rfl rfl ?_
        refine JJ_iload_n dX11_rally_26 rfl rfl ?_
        refine JJ_callV (rest := []) (congrArg Prod.fst (hC.sh (t := 0) (k := 12) (m := 0) (by decide))) rfl rfl (kc_inThought hk h16 hr hA hg2 hC hX) (by omega) mi_X11_playInThought lk_X11_183 rfl (Nat.le_of_ble_eq_true rfl) rfl rfl dX11_rally_27 ?_
        intro v25 μ26 h27
        obtain ⟨rfl, Mb, Lb, Pb, rfl, b1, b2, b3, b4, b5, b6, b7⟩ := h27
        refine JJ_r1 ?_
        have hCb : CWF x S Pb := hC.keep (fun b k _ _ z => b7 b k z)
        refine JJ_istore (lv' := [(4, .int (sr_wins (z_fin A k))), (3, .int (z_rb A (nI k))), (0, .ref x), (1, .int (nI k)), (2, .int 2)]) dX11_rally_30 (by decide) rfl ?_
        refine JJ_iload_n dX11_rally_32 rfl rfl ?_
        refine JJ_tabIn (tgt := 80) (2) dX11_rally_33 rfl (by decide) rfl (by decide) ?_
        refine JJ_aload_n dX11_rally_80 rfl rfl ?_
        refine JJ_getr (q := x + 43) (cis := [11]) (k := 6) fa_X11_101 (by decide) (congrArg Prod.fst (hC.sh (t := 0) (k := 12) (m := 0) (by decide))) rfl (hCb.rf (t := 0) (s := 6) (u := 43) (by decide)) dX11_rally_81 ?_
        refine JJ_getr (q := x + 43 + 1) (cis := [1]) (k := 0) fa_X11_186 (by decide) (congrArg Prod.fst (hC.2.2.2.1 1 (by decide)).1) rfl (hCb.2.2.2.1 1 (by decide)).2.2.2.1 dX11_rally_84 ?_
        refine JJ_geti (v := Mb (x + 43 + 1) 1) (cis := [6]) (k := 1) fa_X11_190 (by decide) (congrArg Prod.fst (hC.2.2.2.1 1 (by decide)).2.1) rfl (hX.1 _ _ (by omega) (by omega) (by omega)) rfl dX11_rally_87 ?_
        refine JJ_iret dX11_rally_90 rfl ?_
        exact cI_v (by rw [e0]; exact congrArg Value.int (by show _ = s_what _ _ 2; exact ((b1.c1 (p := 0) (by decide)).trans (zPut_1 (p := 0) (by decide))).trans rfl)) hA h6 hC b6 b7 (fun _ _ => trivial)
      · skip
        refine JJ_iload_n dX11_rally_23 rfl rfl ?_
        refine JJ_iret dX11_rally_24 rfl ?_
        have e0 : zr_rally A s (nI 2) = z_rb A s := by
          unfold zr_rally
          by_cases hs : isSh s
          · rw [if_neg (fun z => z ⟨hs, by decide⟩), if_neg c24]
          · rw [if_pos (fun z => hs z.1)]; exact (rb_1 hs).symm
        exact cI_q (by rw [e0]) hA hC
    · skip
      refine KK_of2 [(0, .ref x), (1, .int s), (2, .int 3)] (by decide +kernel) (Nat.le_of_ble_eq_true rfl) rfl ?_
      refine JJ_iload_n dX11_rally_0 rfl rfl ?_
      refine JJ_if_lt (tgt := 10) dX11_rally_1 (by decide) (fun c28 => absurd c28 (by decide)) (fun _ => ?_)
      refine JJ_iload_n dX11_rally_4 rfl rfl ?_
      refine JJ_bipush (v := 6) dX11_rally_5 rfl ?_
      refine JJ_icmp_le (tgt := 13) dX11_rally_7 (by decide) (fun _ => ?_) (fun c29 => absurd (by decide) c29)
      refine JJ_aload_n dX11_rally_13 rfl rfl ?_
      refine JJ_iload_n dX11_rally_14 rfl rfl ?_
      refine JJ_callV (rest := []) (congrArg Prod.fst (hC.sh (t := 0) (k := 12) (m := 0) (by decide))) rfl rfl (kc_refusal hA hg2 hC hX) (by omega) mi_X11_refusalOfRally lk_X11_180 rfl (Nat.le_of_ble_eq_true rfl) rfl rfl dX11_rally_15 ?_
      intro v30 μ31 h32
      obtain ⟨rfl, rfl⟩ := h32
      refine JJ_r1 ?_
      refine JJ_istore_n (lv' := [(3, .int (z_rb A s)), (0, .ref x), (1, .int s), (2, .int 3)]) dX11_rally_18 rfl (by decide) rfl ?_
      refine JJ_iload_n dX11_rally_19 rfl rfl ?_
      refine JJ_if_eq (tgt := 25) dX11_rally_20 (by decide) (fun c33 => ?_) (fun c33 => ?_)
      · skip
        obtain ⟨k, N, hk, rfl, h16, hr⟩ := rb_rwy hg2 c33
        have hrb := c33
        have hik : i2n (nI k) = k := nI_clamp (by omega)
        have e0 : zr_rally A (nI k) (nI 3) = s_what (z_fin A k) (z_st A k (z_fin A k).1) 3 := (if_neg (fun z => z ⟨isSh_n hk, by decide⟩)).trans ((if_pos hrb).trans (by rw [hik]; rfl))
        refine JJ_aload_n dX11_rally_25 rfl rfl ?_
        refine JJ_iload_n dX11_rally_26 rfl rfl ?_
        refine JJ_callV (rest := []) (congrArg Prod.fst (hC.sh (t := 0) (k := 12) (m := 0) (by decide))) rfl rfl (kc_inThought hk h16 hr hA hg2 hC hX) (by omega) mi_X11_playInThought lk_X11_183 rfl (Nat.le_of_ble_eq_true rfl) rfl rfl dX11_rally_27 ?_
        intro v34 μ35 h36
        obtain ⟨rfl, Mb, Lb, Pb, rfl, b1, b2, b3, b4, b5, b6, b7⟩ := h36
        refine JJ_r1 ?_
        have hCb : CWF x S Pb := hC.keep (fun b k _ _ z => b7 b k z)
        refine JJ_istore (lv' := [(4, .int (sr_wins (z_fin A k))), (3, .int (z_rb A (nI k))), (0, .ref x), (1, .int (nI k)), (2, .int 3)]) dX11_rally_30 (by decide) rfl ?_
        refine JJ_iload_n dX11_rally_32 rfl rfl ?_
        refine JJ_tabIn (tgt := 91) (3) dX11_rally_33 rfl (by decide) rfl (by decide) ?_
        refine JJ_aload_n dX11_rally_91 rfl rfl ?_
        refine JJ_getr (q := x + 43) (cis := [11]) (k := 6) fa_X11_101 (by decide) (congrArg Prod.fst (hC.sh (t := 0) (k := 12) (m := 0) (by decide))) rfl (hCb.rf (t := 0) (s := 6) (u := 43) (by decide)) dX11_rally_92 ?_
        refine JJ_getr (q := x + 43 + 2) (cis := [1]) (k := 1) fa_X11_193 (by decide) (congrArg Prod.fst (hC.2.2.2.1 1 (by decide)).1) rfl (hCb.2.2.2.1 1 (by decide)).2.2.2.2 dX11_rally_95 ?_
        refine JJ_geti (v := Mb (x + 43 + 2) 1) (cis := [6]) (k := 1) fa_X11_190 (by decide) (congrArg Prod.fst (hC.2.2.2.1 1 (by decide)).2.2.1) rfl (hX.1 _ _ (by omega) (by omega) (by omega)) rfl dX11_rally_98 ?_
        refine JJ_iret dX11_rally_101 rfl ?_
        exact cI_v (by rw [e0]; exact congrArg Value.int (by show _ = s_what _ _ 3; exact ((b1.c1 (p := 1) (by decide)).trans (zPut_1 (p := 1) (by decide))).trans rfl)) hA h6 hC b6 b7 (fun _ _ => trivial)
      · skip
        refine JJ_iload_n dX11_rally_23 rfl rfl ?_
        refine JJ_iret dX11_rally_24 rfl ?_
        have e0 : zr_rally A s (nI 3) = z_rb A s := by
          unfold zr_rally
          by_cases hs : isSh s
          · rw [if_neg (fun z => z ⟨hs, by decide⟩), if_neg c33]
          · rw [if_pos (fun z => hs z.1)]; exact (rb_1 hs).symm
        exact cI_q (by rw [e0]) hA hC
    · skip
      refine KK_of2 [(0, .ref x), (1, .int s), (2, .int 4)] (by decide +kernel) (Nat.le_of_ble_eq_true rfl) rfl ?_
      refine JJ_iload_n dX11_rally_0 rfl rfl ?_
      refine JJ_if_lt (tgt := 10) dX11_rally_1 (by decide) (fun c37 => absurd c37 (by decide)) (fun _ => ?_)
      refine JJ_iload_n dX11_rally_4 rfl rfl ?_
      refine JJ_bipush (v := 6) dX11_rally_5 rfl ?_
      refine JJ_icmp_le (tgt := 13) dX11_rally_7 (by decide) (fun _ => ?_) (fun c38 => absurd (by decide) c38)
      refine JJ_aload_n dX11_rally_13 rfl rfl ?_
      refine JJ_iload_n dX11_rally_14 rfl rfl ?_
      refine JJ_callV (rest := []) (congrArg Prod.fst (hC.sh (t := 0) (k := 12) (m := 0) (by decide))) rfl rfl (kc_refusal hA hg2 hC hX) (by omega) mi_X11_refusalOfRally lk_X11_180 rfl (Nat.le_of_ble_eq_true rfl) rfl rfl dX11_rally_15 ?_
      intro v39 μ40 h41
      obtain ⟨rfl, rfl⟩ := h41
      refine JJ_r1 ?_
      refine JJ_istore_n (lv' := [(3, .int (z_rb A s)), (0, .ref x), (1, .int s), (2, .int 4)]) dX11_rally_18 rfl (by decide) rfl ?_
      refine JJ_iload_n dX11_rally_19 rfl rfl ?_
      refine JJ_if_eq (tgt := 25) dX11_rally_20 (by decide) (fun c42 => ?_) (fun c42 => ?_)
      · skip
        obtain ⟨k, N, hk, rfl, h16, hr⟩ := rb_rwy hg2 c42
        have hrb := c42
        have hik : i2n (nI k) = k := nI_clamp (by omega)
        have e0 : zr_rally A (nI k) (nI 4) = s_what (z_fin A k) (z_st A k (z_fin A k).1) 4 := (if_neg (fun z => z ⟨isSh_n hk, by decide⟩)).trans ((if_pos hrb).trans (by rw [hik]; rfl))
        refine JJ_aload_n dX11_rally_25 rfl rfl ?_
        refine JJ_iload_n dX11_rally_26 rfl rfl ?_
        refine JJ_callV (rest := []) (congrArg Prod.fst (hC.sh (t := 0) (k := 12) (m := 0) (by decide))) rfl rfl (kc_inThought hk h16 hr hA hg2 hC hX) (by omega) mi_X11_playInThought lk_X11_183 rfl (Nat.le_of_ble_eq_true rfl) rfl rfl dX11_rally_27 ?_
        intro v43 μ44 h45
        obtain ⟨rfl, Mb, Lb, Pb, rfl, b1, b2, b3, b4, b5, b6, b7⟩ := h45
        refine JJ_r1 ?_
        have hCb : CWF x S Pb := hC.keep (fun b k _ _ z => b7 b k z)
        refine JJ_istore (lv' := [(4, .int (sr_wins (z_fin A k))), (3, .int (z_rb A (nI k))), (0, .ref x), (1, .int (nI k)), (2, .int 4)]) dX11_rally_30 (by decide) rfl ?_
        refine JJ_iload_n dX11_rally_32 rfl rfl ?_
        refine JJ_tabIn (tgt := 102) (4) dX11_rally_33 rfl (by decide) rfl (by decide) ?_
        refine JJ_aload_n dX11_rally_102 rfl rfl ?_
        refine JJ_getr (q := x + 43) (cis := [11]) (k := 6) fa_X11_101 (by decide) (congrArg Prod.fst (hC.sh (t := 0) (k := 12) (m := 0) (by decide))) rfl (hCb.rf (t := 0) (s := 6) (u := 43) (by decide)) dX11_rally_103 ?_
        refine JJ_getr (q := x + 43 + 1) (cis := [1]) (k := 0) fa_X11_186 (by decide) (congrArg Prod.fst (hC.2.2.2.1 1 (by decide)).1) rfl (hCb.2.2.2.1 1 (by decide)).2.2.2.1 dX11_rally_106 ?_
        refine JJ_geti (v := Mb (x + 43 + 1) 0) (cis := [6]) (k := 0) fa_X11_150 (by decide) (congrArg Prod.fst (hC.2.2.2.1 1 (by decide)).2.1) rfl (hX.1 _ _ (by omega) (by omega) (by omega)) rfl dX11_rally_109 ?_
        refine JJ_iret dX11_rally_112 rfl ?_
        exact cI_v (by rw [e0]; exact congrArg Value.int (by show _ = s_what _ _ 4; exact ((b1.c0 (p := 0) (by decide)).trans (zPut_0 (p := 0) (by decide))).trans rfl)) hA h6 hC b6 b7 (fun _ _ => trivial)
      · skip
        refine JJ_iload_n dX11_rally_23 rfl rfl ?_
        refine JJ_iret dX11_rally_24 rfl ?_
        have e0 : zr_rally A s (nI 4) = z_rb A s := by
          unfold zr_rally
          by_cases hs : isSh s
          · rw [if_neg (fun z => z ⟨hs, by decide⟩), if_neg c42]
          · rw [if_pos (fun z => hs z.1)]; exact (rb_1 hs).symm
        exact cI_q (by rw [e0]) hA hC
    · skip
      refine KK_of2 [(0, .ref x), (1, .int s), (2, .int 5)] (by decide +kernel) (Nat.le_of_ble_eq_true rfl) rfl ?_
      refine JJ_iload_n dX11_rally_0 rfl rfl ?_
      refine JJ_if_lt (tgt := 10) dX11_rally_1 (by decide) (fun c46 => absurd c46 (by decide)) (fun _ => ?_)
      refine JJ_iload_n dX11_rally_4 rfl rfl ?_
      refine JJ_bipush (v := 6) dX11_rally_5 rfl ?_
      refine JJ_icmp_le (tgt := 13) dX11_rally_7 (by decide) (fun _ => ?_) (fun c47 => absurd (by decide) c47)
      refine JJ_aload_n dX11_rally_13 rfl rfl ?_
      refine JJ_iload_n dX11_rally_14 rfl rfl ?_
      refine JJ_callV (rest := []) (congrArg Prod.fst (hC.sh (t := 0) (k := 12) (m := 0) (by decide))) rfl rfl (kc_refusal hA hg2 hC hX) (by omega) mi_X11_refusalOfRally lk_X11_180 rfl (Nat.le_of_ble_eq_true rfl) rfl rfl dX11_rally_15 ?_
      intro v48 μ49 h50
      obtain ⟨rfl, rfl⟩ := h50
      refine JJ_r1 ?_
      refine JJ_istore_n (lv' := [(3, .int (z_rb A s)), (0, .ref x), (1, .int s), (2, .int 5)]) dX11_rally_18 rfl (by decide) rfl ?_
      refine JJ_iload_n dX11_rally_19 rfl rfl ?_
      refine JJ_if_eq (tgt := 25) dX11_rally_20 (by decide) (fun c51 => ?_) (fun c51 => ?_)
      · skip
        obtain ⟨k, N, hk, rfl, h16, hr⟩ := rb_rwy hg2 c51
        have hrb := c51
        have hik : i2n (nI k) = k := nI_clamp (by omega)
        have e0 : zr_rally A (nI k) (nI 5) = s_what (z_fin A k) (z_st A k (z_fin A k).1) 5 := (if_neg (fun z => z ⟨isSh_n hk, by decide⟩)).trans ((if_pos hrb).trans (by rw [hik]; rfl))
        refine JJ_aload_n dX11_rally_25 rfl rfl ?_
        refine JJ_iload_n dX11_rally_26 rfl rfl ?_
        refine JJ_callV (rest := []) (congrArg Prod.fst (hC.sh (t := 0) (k := 12) (m := 0) (by decide))) rfl rfl (kc_inThought hk h16 hr hA hg2 hC hX) (by omega) mi_X11_playInThought lk_X11_183 rfl (Nat.le_of_ble_eq_true rfl) rfl rfl dX11_rally_27 ?_
        intro v52 μ53 h54
        obtain ⟨rfl, Mb, Lb, Pb, rfl, b1, b2, b3, b4, b5, b6, b7⟩ := h54
        refine JJ_r1 ?_
        have hCb : CWF x S Pb := hC.keep (fun b k _ _ z => b7 b k z)
        refine JJ_istore (lv' := [(4, .int (sr_wins (z_fin A k))), (3, .int (z_rb A (nI k))), (0, .ref x), (1, .int (nI k)), (2, .int 5)]) dX11_rally_30 (by decide) rfl ?_
        refine JJ_iload_n dX11_rally_32 rfl rfl ?_
        refine JJ_tabIn (tgt := 113) (5) dX11_rally_33 rfl (by decide) rfl (by decide) ?_
        refine JJ_aload_n dX11_rally_113 rfl rfl ?_
        refine JJ_getr (q := x + 43) (cis := [11]) (k := 6) fa_X11_101 (by decide) (congrArg Prod.fst (hC.sh (t := 0) (k := 12) (m := 0) (by decide))) rfl (hCb.rf (t := 0) (s := 6) (u := 43) (by decide)) dX11_rally_114 ?_
        refine JJ_getr (q := x + 43 + 2) (cis := [1]) (k := 1) fa_X11_193 (by decide) (congrArg Prod.fst (hC.2.2.2.1 1 (by decide)).1) rfl (hCb.2.2.2.1 1 (by decide)).2.2.2.2 dX11_rally_117 ?_
        refine JJ_geti (v := Mb (x + 43 + 2) 0) (cis := [6]) (k := 0) fa_X11_150 (by decide) (congrArg Prod.fst (hC.2.2.2.1 1 (by decide)).2.2.1) rfl (hX.1 _ _ (by omega) (by omega) (by omega)) rfl dX11_rally_120 ?_
        refine JJ_iret dX11_rally_123 rfl ?_
        exact cI_v (by rw [e0]; exact congrArg Value.int (by show _ = s_what _ _ 5; exact ((b1.c0 (p := 1) (by decide)).trans (zPut_0 (p := 1) (by decide))).trans rfl)) hA h6 hC b6 b7 (fun _ _ => trivial)
      · skip
        refine JJ_iload_n dX11_rally_23 rfl rfl ?_
        refine JJ_iret dX11_rally_24 rfl ?_
        have e0 : zr_rally A s (nI 5) = z_rb A s := by
          unfold zr_rally
          by_cases hs : isSh s
          · rw [if_neg (fun z => z ⟨hs, by decide⟩), if_neg c51]
          · rw [if_pos (fun z => hs z.1)]; exact (rb_1 hs).symm
        exact cI_q (by rw [e0]) hA hC
    · skip
      refine KK_of2 [(0, .ref x), (1, .int s), (2, .int 6)] (by decide +kernel) (Nat.le_of_ble_eq_true rfl) rfl ?_
      refine JJ_iload_n dX11_rally_0 rfl rfl ?_
      refine JJ_if_lt (tgt := 10) dX11_rally_1 (by decide) (fun c55 => absurd c55 (by decide)) (fun _ => ?_)
      refine JJ_iload_n dX11_rally_4 rfl rfl ?_
      refine JJ_bipush (v := 6) dX11_rally_5 rfl ?_
      refine JJ_icmp_le (tgt := 13) dX11_rally_7 (by decide) (fun _ => ?_) (fun c56 => absurd (by decide) c56)
      refine JJ_aload_n dX11_rally_13 rfl rfl ?_
      refine JJ_iload_n dX11_rally_14 rfl rfl ?_
      refine JJ_callV (rest := []) (congrArg Prod.fst (hC.sh (t := 0) (k := 12) (m := 0) (by decide))) rfl rfl (kc_refusal hA hg2 hC hX) (by omega) mi_X11_refusalOfRally lk_X11_180 rfl (Nat.le_of_ble_eq_true rfl) rfl rfl dX11_rally_15 ?_
      intro v57 μ58 h59
      obtain ⟨rfl, rfl⟩ := h59
      refine JJ_r1 ?_
      refine JJ_istore_n (lv' := [(3, .int (z_rb A s)), (0, .ref x), (1, .int s), (2, .int 6)]) dX11_rally_18 rfl (by decide) rfl ?_
      refine JJ_iload_n dX11_rally_19 rfl rfl ?_
      refine JJ_if_eq (tgt := 25) dX11_rally_20 (by decide) (fun c60 => ?_) (fun c60 => ?_)
      · skip
        obtain ⟨k, N, hk, rfl, h16, hr⟩ := rb_rwy hg2 c60
        have hrb := c60
        have hik : i2n (nI k) = k := nI_clamp (by omega)
        have e0 : zr_rally A (nI k) (nI 6) = s_what (z_fin A k) (z_st A k (z_fin A k).1) 6 := (if_neg (fun z => z ⟨isSh_n hk, by decide⟩)).trans ((if_pos hrb).trans (by rw [hik]; rfl))
        refine JJ_aload_n dX11_rally_25 rfl rfl ?_
        refine JJ_iload_n dX11_rally_26 rfl rfl ?_
        refine JJ_callV (rest := []) (congrArg Prod.fst (hC.sh (t := 0) (k := 12) (m := 0) (by decide))) rfl rfl (kc_inThought hk h16 hr hA hg2 hC hX) (by omega) mi_X11_playInThought lk_X11_183 rfl (Nat.le_of_ble_eq_true rfl) rfl rfl dX11_rally_27 ?_
        intro v61 μ62 h63
        obtain ⟨rfl, Mb, Lb, Pb, rfl, b1, b2, b3, b4, b5, b6, b7⟩ := h63
        refine JJ_r1 ?_
        have hCb : CWF x S Pb := hC.keep (fun b k _ _ z => b7 b k z)
        refine JJ_istore (lv' := [(4, .int (sr_wins (z_fin A k))), (3, .int (z_rb A (nI k))), (0, .ref x), (1, .int (nI k)), (2, .int 6)]) dX11_rally_30 (by decide) rfl ?_
        refine JJ_iload_n dX11_rally_32 rfl rfl ?_
        refine JJ_tabOut (tgt := 124) dX11_rally_33 (by decide) (by decide) ?_
        refine JJ_aload_n dX11_rally_124 rfl rfl ?_
        refine JJ_getr (q := x + 43) (cis := [11]) (k := 6) fa_X11_101 (by decide) (congrArg Prod.fst (hC.sh (t := 0) (k := 12) (m := 0) (by decide))) rfl (hCb.rf (t := 0) (s := 6) (u := 43) (by decide)) dX11_rally_125 ?_
        refine JJ_geti (v := Mb (x + 43) 2) (cis := [1]) (k := 2) fa_X11_112 (by decide) (congrArg Prod.fst (hC.2.2.2.1 1 (by decide)).1) rfl (hX.1 _ _ (by omega) (by omega) (by omega)) rfl dX11_rally_128 ?_
        refine JJ_iret dX11_rally_131 rfl ?_
        exact cI_v (by rw [e0]; exact congrArg Value.int (by show _ = s_what _ _ 6; exact (b1.w.trans zPut_4).trans rfl)) hA h6 hC b6 b7 (fun _ _ => trivial)
      · skip
        refine JJ_iload_n dX11_rally_23 rfl rfl ?_
        refine JJ_iret dX11_rally_24 rfl ?_
        have e0 : zr_rally A s (nI 6) = z_rb A s := by
          unfold zr_rally
          by_cases hs : isSh s
          · rw [if_neg (fun z => z ⟨hs, by decide⟩), if_neg c60]
          · rw [if_pos (fun z => hs z.1)]; exact (rb_1 hs).symm
        exact cI_q (by rw [e0]) hA hC
  · skip
    have e0 : zr_rally A s what = -2 := if_pos (fun z => hw z.2)
    rw [e0]
    refine KK_of2 [(0, .ref x), (1, .int s), (2, .int what)] (by decide +kernel) (Nat.le_of_ble_eq_true rfl) rfl ?_
    refine JJ_iload_n dX11_rally_0 rfl rfl ?_
    refine JJ_if_lt (tgt := 10) dX11_rally_1 (by decide) (fun c64 => ?_) (fun c64 => ?_)
    · skip
      refine JJ_bipush (v := (-2)) dX11_rally_10 rfl ?_
      refine JJ_iret dX11_rally_12 rfl ?_
      exact cI_q rfl hA hC
    · skip
      refine JJ_iload_n dX11_rally_4 rfl rfl ?_
      refine JJ_bipush (v := 6) dX11_rally_5 rfl ?_
      refine JJ_icmp_le (tgt := 13) dX11_rally_7 (by decide) (fun c65 => absurd c65 (fun y => by have y1 := c64; rw [i_lt] at y1; rw [i_le] at y; omega)) (fun _ => ?_)
      refine JJ_bipush (v := (-2)) dX11_rally_10 rfl ?_
      refine JJ_iret dX11_rally_12 rfl ?_
      exact cI_q rfl hA hC
set_option maxHeartbeats 4000000 in
set_option maxRecDepth 100000 in
theorem kc_likely {s : Int32} (hA : cABS x n S P M A) (hg2 : RNG2 A) (hC : CWF x S P) (hX : HSC x sc) : KK G sc yX11_likely cX11_likely 2 (some .long) 11 0 0 [.ref x, .int s] (n, S, M, L, P) (cI x n S M P (.long (zr_likely A s)) A) := by
  have hg : RNG A := hg2.1
  have hrl := (rul_lt hg).1
  obtain ⟨cn, hc6, hcA, hcZ⟩ := cnt_e hg
  have h6 := (rul_lt hg).2
  have hct := hA.1
  have hrt := hct.rt hg hA.2.2.1
  have hst := hA.2.2.2.1
  refine KK_of2 [(0, .ref x), (1, .int s)] (by decide +kernel) (Nat.le_of_ble_eq_true rfl) rfl ?_
  refine JJ_aload_n dX11_likely_0 rfl rfl ?_
  refine JJ_iload_n dX11_likely_1 rfl rfl ?_
  refine JJ_callV (rest := []) (congrArg Prod.fst (hC.sh (t := 0) (k := 12) (m := 0) (by decide))) rfl rfl (kc_refusal hA hg2 hC hX) (by omega) mi_X11_refusalOfRally lk_X11_180 rfl (Nat.le_of_ble_eq_true rfl) rfl rfl dX11_likely_2 ?_
  intro v1 μ2 h3
  obtain ⟨rfl, rfl⟩ := h3
  refine JJ_r1 ?_
  refine JJ_if_eq (tgt := 12) dX11_likely_5 (by decide) (fun c4 => ?_) (fun c4 => ?_)
  · skip
    obtain ⟨k, N, hk, rfl, h16, hr⟩ := rb_rwy hg2 c4
    have hrb := c4
    have hik : i2n (nI k) = k := nI_clamp (by omega)
    have e0 : zr_likely A (nI k) = z_lk A k (z_fin A k).1 := (if_pos hrb).trans (by rw [hik])
    refine JJ_aload_n dX11_likely_12 rfl rfl ?_
    refine JJ_iload_n dX11_likely_13 rfl rfl ?_
    refine JJ_callV (rest := []) (congrArg Prod.fst (hC.sh (t := 0) (k := 12) (m := 0) (by decide))) rfl rfl (kc_inThought hk h16 hr hA hg2 hC hX) (by omega) mi_X11_playInThought lk_X11_183 rfl (Nat.le_of_ble_eq_true rfl) rfl rfl dX11_likely_14 ?_
    intro v5 μ6 h7
    obtain ⟨rfl, Mb, Lb, Pb, rfl, b1, b2, b3, b4, b5, b6, b7⟩ := h7
    refine JJ_r1 ?_
    have hCb : CWF x S Pb := hC.keep (fun b k _ _ z => b7 b k z)
    refine JJ_pop dX11_likely_17 rfl ?_
    refine JJ_aload_n dX11_likely_18 rfl rfl ?_
    refine JJ_getl (v := z_lk A k (z_fin A k).1) (cis := [11]) (k := 15) fa_X11_65 (by decide) (congrArg Prod.fst (hC.sh (t := 0) (k := 12) (m := 0) (by decide))) rfl (hX.1 _ _ (by omega) (by omega) (by omega)) b3 dX11_likely_19 ?_
    refine JJ_lret dX11_likely_22 rfl ?_
    exact cI_v (by rw [e0]) hA h6 hC b6 b7 (fun _ _ => trivial)
  · skip
    refine JJ_ldc2 (v := (-4611686018427387904)) dX11_likely_8 tb_799 ?_
    refine JJ_lret dX11_likely_11 rfl ?_
    exact cI_q (by rw [show zr_likely A s = -4611686018427387904 from if_neg c4]) hA hC
set_option maxHeartbeats 4000000 in
set_option maxRecDepth 100000 in
theorem kc_way {s : Int32} (hA : cABS x n S P M A) (hg2 : RNG2 A) (hC : CWF x S P) (hX : HSC x sc) : KK G sc yX11_inTheWay cX11_inTheWay 3 (some .int) 11 0 0 [.ref x, .int s] (n, S, M, L, P) (cI x n S M P (.int (zr_way A s)) A) := by
  have hg : RNG A := hg2.1
  have hrl := (rul_lt hg).1
  obtain ⟨cn, hc6, hcA, hcZ⟩ := cnt_e hg
  have h6 := (rul_lt hg).2
  have hct := hA.1
  have hrt := hct.rt hg hA.2.2.1
  have hst := hA.2.2.2.1
  refine KK_of2 [(0, .ref x), (1, .int s)] (by decide +kernel) (Nat.le_of_ble_eq_true rfl) rfl ?_
  refine JJ_aload_n dX11_inTheWay_0 rfl rfl ?_
  refine JJ_iload_n dX11_inTheWay_1 rfl rfl ?_
  refine JJ_callV (rest := []) (congrArg Prod.fst (hC.sh (t := 0) (k := 12) (m := 0) (by decide))) rfl rfl (kc_refusal hA hg2 hC hX) (by omega) mi_X11_refusalOfRally lk_X11_180 rfl (Nat.le_of_ble_eq_true rfl) rfl rfl dX11_inTheWay_2 ?_
  intro v1 μ2 h3
  obtain ⟨rfl, rfl⟩ := h3
  refine JJ_r1 ?_
  refine JJ_istore_n (lv' := [(2, .int (z_rb A s)), (0, .ref x), (1, .int s)]) dX11_inTheWay_5 rfl (by decide) rfl ?_
  refine JJ_iload_n dX11_inTheWay_6 rfl rfl ?_
  refine JJ_if_eq (tgt := 12) dX11_inTheWay_7 (by decide) (fun c4 => ?_) (fun c4 => ?_)
  · skip
    obtain ⟨k, N, hk, rfl, h16, hr⟩ := rb_rwy hg2 c4
    have hrb := c4
    have hik : i2n (nI k) = k := nI_clamp (by omega)
    have e0 : zr_way A (nI k) = z_way A k (z_fin A k).1 := (if_pos hrb).trans (by rw [hik])
    refine JJ_aload_n dX11_inTheWay_12 rfl rfl ?_
    refine JJ_iload_n dX11_inTheWay_13 rfl rfl ?_
    refine JJ_callV (rest := []) (congrArg Prod.fst (hC.sh (t := 0) (k := 12) (m := 0) (by decide))) rfl rfl (kc_inThought hk h16 hr hA hg2 hC hX) (by omega) mi_X11_playInThought lk_X11_183 rfl (Nat.le_of_ble_eq_true rfl) rfl rfl dX11_inTheWay_14 ?_
    intro v5 μ6 h7
    obtain ⟨rfl, Mb, Lb, Pb, rfl, b1, b2, b3, b4, b5, b6, b7⟩ := h7
    refine JJ_r1 ?_
    have hCb : CWF x S Pb := hC.keep (fun b k _ _ z => b7 b k z)
    refine JJ_pop dX11_inTheWay_17 rfl ?_
    refine JJ_aload_n dX11_inTheWay_18 rfl rfl ?_
    refine JJ_geti (v := z_way A k (z_fin A k).1) (cis := [11]) (k := 16) fa_X11_69 (by decide) (congrArg Prod.fst (hC.sh (t := 0) (k := 12) (m := 0) (by decide))) rfl (hX.1 _ _ (by omega) (by omega) (by omega)) b4 dX11_inTheWay_19 ?_
    refine JJ_iret dX11_inTheWay_22 rfl ?_
    exact cI_v (by rw [e0]) hA h6 hC b6 b7 (fun _ _ => trivial)
  · skip
    refine JJ_iload_n dX11_inTheWay_10 rfl rfl ?_
    refine JJ_iret dX11_inTheWay_11 rfl ?_
    exact cI_q (by rw [show zr_way A s = z_rb A s from if_neg c4]) hA hC
end C18
