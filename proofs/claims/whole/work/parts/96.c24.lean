section C24
variable {G : Gx} {sc : Nat → Nat → Prop} {n : Nat} {S : Nat → Nat × Nat} {M M' : Nat → Nat → Int32} {L : Nat → Nat → Int64} {P P' : Nat → Nat → Option Nat} {x : Nat} {A B : Abs}

set_option maxHeartbeats 4000000 in
set_option maxRecDepth 100000 in
theorem kc_strokeAtW {q a cn : Nat} (hc6 : cn ≤ 6) (h4 : M x 4 = nI cn) (hq : q < cn) (ha : P (x + 4) q = some a) (hC : CWF x S P) (hX : HSC x sc) : KK G sc yX11_strokeAt cX11_strokeAt 2 (some (.object "MiddleOfCourt$Stroke")) 0 0 0 [.ref x, .int (nI q)] (n, S, M, L, P) (ansR a (n, S, M, L, P)) := by
  refine KK_of2 [(0, .ref x), (1, .int (nI q))] (by decide +kernel) (Nat.le_of_ble_eq_true rfl) rfl ?_
  refine JJ_iload_n dX11_strokeAt_0 rfl rfl ?_
  refine JJ_if_lt (tgt := 21) dX11_strokeAt_1 (by decide) (fun c1 => absurd c1 (nI_nn (by omega))) (fun _ => ?_)
  refine JJ_iload_n dX11_strokeAt_4 rfl rfl ?_
  refine JJ_aload_n dX11_strokeAt_5 rfl rfl ?_
  refine JJ_geti (v := nI cn) (cis := [11]) (k := 4) fa_X11_32 (by decide) (congrArg Prod.fst (hC.sh (t := 0) (k := 12) (m := 0) (by decide))) rfl (hX.1 _ _ (by omega) (by omega) (by omega)) h4 dX11_strokeAt_6 ?_
  refine JJ_icmp_ge (tgt := 21) dX11_strokeAt_9 (by decide) (fun c2 => absurd c2 (nI_ge (by omega) (by omega))) (fun _ => ?_)
  refine JJ_iload_n dX11_strokeAt_12 rfl rfl ?_
  refine JJ_aload_n dX11_strokeAt_13 rfl rfl ?_
  refine JJ_getr (q := x + 4) (cis := [11]) (k := 3) fa_X11_28 (by decide) (congrArg Prod.fst (hC.sh (t := 0) (k := 12) (m := 0) (by decide))) rfl (hC.rf (t := 0) (s := 3) (u := 4) (by decide)) dX11_strokeAt_14 ?_
  refine JJ_alen (t := 3) (hC.sh (t := 4) (k := 23) (m := 6) (by decide)) (by decide) dX11_strokeAt_17 ?_
  refine JJ_icmp_lt (tgt := 25) dX11_strokeAt_18 (by decide) (fun _ => ?_) (fun c3 => absurd (nI_lt1 (by omega) (by omega)) c3)
  refine JJ_aload_n dX11_strokeAt_25 rfl rfl ?_
  refine JJ_getr (q := x + 4) (cis := [11]) (k := 3) fa_X11_28 (by decide) (congrArg Prod.fst (hC.sh (t := 0) (k := 12) (m := 0) (by decide))) rfl (hC.rf (t := 0) (s := 3) (u := 4) (by decide)) dX11_strokeAt_26 ?_
  refine JJ_iload_n dX11_strokeAt_29 rfl rfl ?_
  refine JJ_aaldX (t := 1) (q := a) (hC.sh (t := 4) (k := 23) (m := 6) (by decide)) (by decide) (IX_nI (by omega) (by omega)) ha dX11_strokeAt_30 ?_
  refine JJ_aret dX11_strokeAt_31 rfl (Or.inr ⟨_, rfl⟩) ?_
  exact ⟨rfl, rfl⟩
set_option maxHeartbeats 4000000 in
set_option maxRecDepth 100000 in
theorem kc_strokeNoW {q cn : Nat} (hc6 : cn ≤ 6) (h4 : M x 4 = nI cn) (hq : cn ≤ q) (hq2 : q < 100) (hC : CWF x S P) (hX : HSC x sc) : KK G sc yX11_strokeAt cX11_strokeAt 2 (some (.object "MiddleOfCourt$Stroke")) 0 0 0 [.ref x, .int (nI q)] (n, S, M, L, P) (ansN (n, S, M, L, P)) := by
  refine KK_of2 [(0, .ref x), (1, .int (nI q))] (by decide +kernel) (Nat.le_of_ble_eq_true rfl) rfl ?_
  refine JJ_iload_n dX11_strokeAt_0 rfl rfl ?_
  refine JJ_if_lt (tgt := 21) dX11_strokeAt_1 (by decide) (fun c1 => absurd c1 (nI_nn (by omega))) (fun _ => ?_)
  refine JJ_iload_n dX11_strokeAt_4 rfl rfl ?_
  refine JJ_aload_n dX11_strokeAt_5 rfl rfl ?_
  refine JJ_geti (v := nI cn) (cis := [11]) (k := 4) fa_X11_32 (by decide) (congrArg Prod.fst (hC.sh (t := 0) (k := 12) (m := 0) (by decide))) rfl (hX.1 _ _ (by omega) (by omega) (by omega)) h4 dX11_strokeAt_6 ?_
  refine JJ_icmp_ge (tgt := 21) dX11_strokeAt_9 (by decide) (fun _ => ?_) (fun c2 => absurd (nI_le (by omega) (by omega)) c2)
  refine JJ_null dX11_strokeAt_21 ?_
  refine JJ_goto (tgt := 31) dX11_strokeAt_22 (by decide) ?_
  refine JJ_aret dX11_strokeAt_31 rfl (Or.inl rfl) ?_
  exact ⟨rfl, rfl⟩
theorem cABS_bck (h : cABS x n S P M A) (h6 : i2n (A.1 10 0) ≤ 6) (hc : CTA x (x + 40) P' M' B) (hs : STS x n S P' M' B) (hk : ∀ b k, b < x + 94 → ¬ (x + 40 ≤ b ∧ b < x + 43) → ¬ (b = x ∧ k = 4) → M' b k = M b k)
    (hP : ∀ b k, ¬ (b = x + 40 ∧ k = 3) → b ≠ x + 4 → P' b k = P b k) (he : ∀ b k, b = 5 ∨ 10 ≤ b → B.1 b k = A.1 b k) (h2 : B.2 = A.2) : cABS x n S P' M' B := by
  obtain ⟨-, a2, a3, -, a5, a6, a7, hu⟩ := h
  refine ⟨hc, (hk _ _ (by omega) (by omega) (by omega)).trans (a2.trans (he 10 0 (by omega)).symm),
    TXS_eq (a3.keep (fun b k z1 z2 => hk _ _ (by omega) (by omega) (by omega)) h6) (he 10 0 (by omega)) h2, hs,
    SHS_eq (a5.keep (fun b k z1 z2 => hk _ _ (by omega) (by omega) (by omega))) (fun b k z => he _ _ (by omega)),
    TPS_eq (a6.keep (hk _ _ (by omega) (by omega) (by omega)) (fun k => hk _ _ (by omega) (by omega) (by omega))) (fun b k z => he _ _ (by omega)),
    IMS_eq (a7.keep (hk _ _ (by omega) (by omega) (by omega)) (fun b k z => hk _ _ (by omega) (by omega) (by omega)) (hP _ _ (by omega) (by omega))) (fun b k z => he _ _ (by omega)), hu⟩
theorem zBck_o {b k : Nat} (h : b = 5 ∨ 10 ≤ b) : (zBck A).1 b k = A.1 b k := by
  unfold zBck
  iterate 23 rw [zUp_n (by omega)]
theorem zBck_67 {q : Nat} (h : q < 6) : (zBck A).1 6 q = A.1 14 q ∧ (zBck A).1 7 q = A.1 14 (6 + q) := by
  rcases (by omega : q = 0 ∨ q = 1 ∨ q = 2 ∨ q = 3 ∨ q = 4 ∨ q = 5) with rfl | rfl | rfl | rfl | rfl | rfl
  all_goals exact ⟨rfl, rfl⟩
theorem zBck_0 {p : Nat} (h : p < 2) : (zBck A).1 0 p = A.1 13 p ∧ (zBck A).1 1 p = A.1 13 (2 + p) ∧ (zBck A).1 2 p = A.1 13 (4 + p) ∧ (zBck A).1 3 p = A.1 13 (6 + p) := by
  rcases (by omega : p = 0 ∨ p = 1) with rfl | rfl
  all_goals exact ⟨rfl, rfl, rfl, rfl⟩
set_option maxHeartbeats 4000000 in
set_option maxRecDepth 100000 in
theorem kc_back (hA : cABS x n S P M A) (hg2 : RNG2 A) (hC : CWF x S P) (hX : HSC x sc) : KK G sc yX11_back cX11_back 3 (some .int) 3 0 0 [.ref x] (n, S, M, L, P) (cI x n S M P (.int (zr_back A).1) (zr_back A).2) := by
  have hg : RNG A := hg2.1
  have hrl := (rul_lt hg).1
  obtain ⟨cn, hc6, hcA, hcZ⟩ := cnt_e hg
  have h6 := (rul_lt hg).2
  have hct := hA.1
  have hrt := hct.rt hg hA.2.2.1
  have hst := hA.2.2.2.1
  obtain ⟨i11, imf⟩ := hA.2.2.2.2.2.2.1
  by_cases h15 : A.1 15 0 = -1
  · skip
    have e0 : zr_back A = (-3, A) := if_pos h15
    rw [e0]
    refine KK_of2 [(0, .ref x)] (by decide +kernel) (Nat.le_of_ble_eq_true rfl) rfl ?_
    refine JJ_aload_n dX11_back_0 rfl rfl ?_
    refine JJ_geti (v := (-1)) (cis := [11]) (k := 11) fa_X11_48 (by decide) (congrArg Prod.fst (hC.sh (t := 0) (k := 12) (m := 0) (by decide))) rfl (hX.1 _ _ (by omega) (by omega) (by omega)) (i11.trans h15) dX11_back_1 ?_
    refine JJ_if_ge (tgt := 10) dX11_back_4 (by decide) (fun c1 => absurd c1 (by decide)) (fun _ => ?_)
    refine JJ_bipush (v := (-3)) dX11_back_7 rfl ?_
    refine JJ_iret dX11_back_9 rfl ?_
    exact cI_q rfl hA hC
  · skip
    obtain ⟨⟨c, hcc, e15⟩, -⟩ := hg2.2.2.2.2.2.2.1.resolve_left h15
    obtain ⟨q1, q2, q3, q4⟩ := imf h15
    rw [e15, show i2n (nI c) = c from nI_clamp (by omega)] at q4
    have h11 : M x 11 = nI c := i11.trans e15
    have e0 : zr_back A = (nI c, zBck A) := (if_neg h15).trans (by rw [e15])
    rw [e0]
    have hC2 : CRT0 x (x + 46) := ⟨2, by decide, by omega⟩
    refine KK_of2 [(0, .ref x)] (by decide +kernel) (Nat.le_of_ble_eq_true rfl) rfl ?_
    refine JJ_aload_n dX11_back_0 rfl rfl ?_
    refine JJ_geti (v := nI c) (cis := [11]) (k := 11) fa_X11_48 (by decide) (congrArg Prod.fst (hC.sh (t := 0) (k := 12) (m := 0) (by decide))) rfl (hX.1 _ _ (by omega) (by omega) (by omega)) h11 dX11_back_1 ?_
    refine JJ_if_ge (tgt := 10) dX11_back_4 (by decide) (fun _ => ?_) (fun c2 => absurd (nI_le (a := 0) (by omega) (by omega)) c2)
    refine JJ_aload_n dX11_back_10 rfl rfl ?_
    refine JJ_getr (q := x + 40) (cis := [11]) (k := 5) fa_X11_97 (by decide) (congrArg Prod.fst (hC.sh (t := 0) (k := 12) (m := 0) (by decide))) rfl (hC.rf (t := 0) (s := 5) (u := 40) (by decide)) dX11_back_11 ?_
    refine JJ_aload_n dX11_back_14 rfl rfl ?_
    refine JJ_getr (q := x + 46) (cis := [11]) (k := 8) fa_X11_104 (by decide) (congrArg Prod.fst (hC.sh (t := 0) (k := 12) (m := 0) (by decide))) rfl (hC.rf (t := 0) (s := 8) (u := 46) (by decide)) dX11_back_15 ?_
    refine JJ_callV (rest := []) (congrArg Prod.fst (hC.2.2.2.1 0 (by decide)).1) rfl rfl (kc_take (c := x + 40) (e := x + 46) (by omega) hct.1 hC2 q3 hC hX) (by omega) mi_X1_take lk_X11_245 rfl (Nat.le_of_ble_eq_true rfl) rfl rfl dX11_back_18 ?_
    intro v3 μ4 h5
    obtain ⟨rfl, Ma, Pa, rfl, htk1, htk2, htk3, htk4⟩ := h5
    refine JJ_r0 ?_
    have hPa : ∀ b k, ¬ (b = x + 40 ∧ k = 3) → Pa b k = P b k := fun b k z => rd_n htk4 z rfl
    have hMa : ∀ b k, ¬ (x + 40 ≤ b ∧ b < x + 43) → Ma b k = M b k := fun b k z => htk3 b k (by omega)
    have hctA : CTA x (x + 40) Pa Ma (zBck A) := by
      refine ⟨hct.1, fun p hp => ?_, htk2.trans q2, rd_s htk4⟩
      rw [htk1 p 0 hp (by decide), htk1 p 1 hp (by decide), htk1 p 2 hp (by decide), htk1 p 3 hp (by decide), (zBck_0 hp).1, (zBck_0 hp).2.1, (zBck_0 hp).2.2.1, (zBck_0 hp).2.2.2, show x + 46 + 1 + p = x + 47 + p by omega]
      exact q1 p hp
    refine JJ_iconst (v := 0) dX11_back_21 rfl ?_
    refine JJ_istore_n (lv' := [(1, .int 0), (0, .ref x)]) dX11_back_22 rfl (by decide) rfl ?_
    have key : ∀ (d j : Nat) (Mx : Nat → Nat → Int32) (Px : Nat → Nat → Option Nat), j + d = 6 → (∀ q, q < j → q < c → ∀ a, P (x + 4) q = some a → Mx a 0 = A.1 14 q ∧ Mx a 1 = A.1 14 (6 + q)) → (∀ b k, b < x + 94 → Mx b k = Ma b k) → (∀ b k, ¬ (b = x + 4 ∧ c ≤ k ∧ k < j) → Px b k = Pa b k) → JJ G sc yX11_back cX11_back 3 (some .int) 3 0 0 (cI x n S M P (.int (nI c)) (zBck A)) 23 [(1, .int (nI j)), (0, .ref x)] [] (n, S, Mx, L, Px) := by
      intro d
      induction d with
      | zero =>
        intro j Mx Px hjd h1 hf hp
        have hx4 : Mx x 4 = nI cn := (hf _ _ (by omega)).trans ((hMa _ _ (by omega)).trans (hst.1.trans hcA))
        have hx11 : Mx x 11 = nI c := (hf _ _ (by omega)).trans ((hMa _ _ (by omega)).trans h11)
        have hCx : CWF x S Px := hC.k3 (fun b k _ _ z z2 => (hp b k (by omega)).trans (hPa b k (by omega)))
        refine JJ_iload_n dX11_back_23 rfl rfl ?_
        refine JJ_aload_n dX11_back_24 rfl rfl ?_
        refine JJ_getr (q := x + 4) (cis := [11]) (k := 3) fa_X11_28 (by decide) (congrArg Prod.fst (hC.sh (t := 0) (k := 12) (m := 0) (by decide))) rfl (hCx.rf (t := 0) (s := 3) (u := 4) (by decide)) dX11_back_25 ?_
        refine JJ_alen (t := 3) (hC.sh (t := 4) (k := 23) (m := 6) (by decide)) (by decide) dX11_back_28 ?_
        refine JJ_icmp_ge (tgt := 86) dX11_back_29 (by decide) (fun _ => ?_) (fun c6 => absurd (nI_le (a := 6) (by omega) (by omega)) c6)
        refine JJ_aload_n dX11_back_86 rfl rfl ?_
        refine JJ_aload_n dX11_back_87 rfl rfl ?_
        refine JJ_geti (v := nI c) (cis := [11]) (k := 11) fa_X11_48 (by decide) (congrArg Prod.fst (hC.sh (t := 0) (k := 12) (m := 0) (by decide))) rfl (hX.1 _ _ (by omega) (by omega) (by omega)) hx11 dX11_back_88 ?_
        refine JJ_puti (cis := [11]) (k := 4) fa_X11_32 (by decide) (congrArg Prod.fst (hC.sh (t := 0) (k := 12) (m := 0) (by decide))) rfl (fun r hr => by cases hr; exact ⟨rfl, by decide +kernel⟩) dX11_back_91 (fun M7 hM8 => ?_)
        refine JJ_aload_n dX11_back_94 rfl rfl ?_
        refine JJ_geti (v := nI c) (cis := [11]) (k := 4) fa_X11_32 (by decide) (congrArg Prod.fst (hC.sh (t := 0) (k := 12) (m := 0) (by decide))) rfl (hX.1 _ _ (by omega) (by omega) (by omega)) (rd_s hM8) dX11_back_95 ?_
        refine JJ_iret dX11_back_98 rfl ?_
        have hfr : ∀ b k, b < x + 94 → ¬ (b = x ∧ k = 4) → ¬ (x + 40 ≤ b ∧ b < x + 43) → M7 b k = M b k := fun b k z1 z2 z3 => rd_n hM8 z2 ((hf b k z1).trans (hMa b k z3))
        have hctB : CTA x (x + 40) Px M7 (zBck A) := hctA.keep (fun k => ⟨rd_n hM8 (by omega) (hf _ _ (by omega)), rd_n hM8 (by omega) (hf _ _ (by omega)), rd_n hM8 (by omega) (hf _ _ (by omega))⟩) (hp _ _ (by omega))
        have e80 : (zBck A).1 8 0 = nI c := e15
        have ez : zcnt (zBck A) = c := by show i2n _ = c; rw [e80]; exact nI_clamp (by omega)
        have hPq : ∀ q, q < c → Px (x + 4) q = P (x + 4) q := fun q hq => (hp _ _ (by omega)).trans (hPa _ _ (by omega))
        have hsB : STS x n S Px M7 (zBck A) := by
          refine ⟨(rd_s hM8).trans e80.symm, fun q hq => ?_, fun q u hq hu e => ?_⟩
          · rw [ez] at hq
            obtain ⟨a, ha, hax, han, ci, y1, y2, y3, y4, y5⟩ := hst.at (q := q) (by omega)
            have z := h1 q (by omega) hq a ha
            refine ⟨a, (hPq q hq).trans ha, hax, han, ci, y1, y2, (zBck_o (by omega)).trans y3, ?_, ?_⟩
            · rw [(zBck_67 (by omega)).1]; exact rd_n hM8 (by omega) z.1
            · rw [(zBck_67 (by omega)).2]; exact rd_n hM8 (by omega) z.2
          · rw [ez] at hq hu
            rw [hPq q hq, hPq u hu] at e
            exact hst.2.2 q u (by omega) (by omega) e
        exact ⟨rfl, n, S, M7, L, Px, rfl, Nat.le_refl _, fun _ _ => rfl, hCx, cABS_bck hA h6 hctB hsB (fun b k z1 z2 z3 => hfr b k z1 z3 z2) (fun b k z1 z2 => (hp b k (by omega)).trans (hPa b k z1)) (fun b k z => zBck_o z) rfl, fun b k z => hfr b k (by unfold cF at z; omega) (fun e => z (by unfold cF; omega)) (fun e => z (by unfold cF; omega)), fun b k z => (hp b k (fun e => z (by unfold cF; omega))).trans (hPa b k (fun e => z (by unfold cF; omega)))⟩
      | succ d ih =>
        intro j Mx Px hjd h1 hf hp
        have hx4 : Mx x 4 = nI cn := (hf _ _ (by omega)).trans ((hMa _ _ (by omega)).trans (hst.1.trans hcA))
        have hx11 : Mx x 11 = nI c := (hf _ _ (by omega)).trans ((hMa _ _ (by omega)).trans h11)
        have hCx : CWF x S Px := hC.k3 (fun b k _ _ z z2 => (hp b k (by omega)).trans (hPa b k (by omega)))
        by_cases hjc : j < c
        · skip
          obtain ⟨a, ha, hax, han, ci, y1, y2, y3, y4, y5⟩ := hst.at (q := j) (by omega)
          have hax2 : Px (x + 4) j = some a := (hp _ _ (by omega)).trans ((hPa _ _ (by omega)).trans ha)
          refine JJ_iload_n dX11_back_23 rfl rfl ?_
          refine JJ_aload_n dX11_back_24 rfl rfl ?_
          refine JJ_getr (q := x + 4) (cis := [11]) (k := 3) fa_X11_28 (by decide) (congrArg Prod.fst (hC.sh (t := 0) (k := 12) (m := 0) (by decide))) rfl (hCx.rf (t := 0) (s := 3) (u := 4) (by decide)) dX11_back_25 ?_
          refine JJ_alen (t := 3) (hC.sh (t := 4) (k := 23) (m := 6) (by decide)) (by decide) dX11_back_28 ?_
          refine JJ_icmp_ge (tgt := 86) dX11_back_29 (by decide) (fun c9 => absurd c9 (nI_ge (b := 6) (by omega) (by omega))) (fun _ => ?_)
          refine JJ_aload_n dX11_back_32 rfl rfl ?_
          refine JJ_iload_n dX11_back_33 rfl rfl ?_
          refine JJ_callV (rest := []) (congrArg Prod.fst (hC.sh (t := 0) (k := 12) (m := 0) (by decide))) rfl rfl (kc_strokeAtW hc6 hx4 (by omega) hax2 hCx hX) (by omega) mi_X11_strokeAt lk_X11_129 rfl (Nat.le_of_ble_eq_true rfl) rfl rfl dX11_back_34 ?_
          intro v10 μ11 h12
          obtain ⟨rfl, rfl⟩ := h12
          refine JJ_r1 ?_
          refine JJ_astore_n (lv' := [(2, .ref a), (1, .int (nI j)), (0, .ref x)]) dX11_back_37 rfl (by decide) rfl ?_
          refine JJ_iload_n dX11_back_38 rfl rfl ?_
          refine JJ_aload_n dX11_back_39 rfl rfl ?_
          refine JJ_geti (v := nI c) (cis := [11]) (k := 11) fa_X11_48 (by decide) (congrArg Prod.fst (hC.sh (t := 0) (k := 12) (m := 0) (by decide))) rfl (hX.1 _ _ (by omega) (by omega) (by omega)) hx11 dX11_back_40 ?_
          refine JJ_icmp_lt (tgt := 56) dX11_back_43 (by decide) (fun _ => ?_) (fun c13 => absurd (nI_lt1 (by omega) (by omega)) c13)
          refine JJ_aload_n dX11_back_56 rfl rfl ?_
          refine JJ_ifnullR dX11_back_57 ?_
          refine JJ_aload_n dX11_back_60 rfl rfl ?_
          refine JJ_aload_n dX11_back_61 rfl rfl ?_
          refine JJ_getr (q := x + 6) (cis := [11]) (k := 9) fa_X11_41 (by decide) (congrArg Prod.fst (hC.sh (t := 0) (k := 12) (m := 0) (by decide))) rfl (hCx.rf (t := 0) (s := 9) (u := 6) (by decide)) dX11_back_62 ?_
          refine JJ_iload_n dX11_back_65 rfl rfl ?_
          refine JJ_ialdX (v := A.1 14 j) (hC.sh (t := 6) (k := 20) (m := 6) (by decide)) (IX_nI (by omega) (by omega)) (hX.1 _ _ (by omega) (by omega) (by omega)) ((hf _ _ (by omega)).trans ((hMa _ _ (by omega)).trans (q4 j hjc).1)) dX11_back_66 ?_
          refine JJ_puti (cis := [0, 2, 3, 4, 5, 8]) (k := 0) fa_X11_256 (by rcases y1 with rfl | rfl | rfl | rfl | rfl | rfl <;> decide) y2 (by rcases y1 with rfl | rfl | rfl | rfl | rfl | rfl <;> rfl) (fun r hr => by rcases y1 with rfl | rfl | rfl | rfl | rfl | rfl <;> cases hr <;> exact ⟨rfl, by decide +kernel⟩) dX11_back_67 (fun M14 hM15 => ?_)
          refine JJ_aload_n dX11_back_70 rfl rfl ?_
          refine JJ_aload_n dX11_back_71 rfl rfl ?_
          refine JJ_getr (q := x + 7) (cis := [11]) (k := 10) fa_X11_45 (by decide) (congrArg Prod.fst (hC.sh (t := 0) (k := 12) (m := 0) (by decide))) rfl (hCx.rf (t := 0) (s := 10) (u := 7) (by decide)) dX11_back_72 ?_
          refine JJ_iload_n dX11_back_75 rfl rfl ?_
          refine JJ_ialdX (v := A.1 14 (6 + j)) (hC.sh (t := 7) (k := 20) (m := 6) (by decide)) (IX_nI (by omega) (by omega)) (hX.1 _ _ (by omega) (by omega) (by omega)) (rd_n hM15 (by omega) ((hf _ _ (by omega)).trans ((hMa _ _ (by omega)).trans (q4 j hjc).2))) dX11_back_76 ?_
          refine JJ_puti (cis := [0, 2, 3, 4, 5, 8]) (k := 1) fa_X11_259 (by rcases y1 with rfl | rfl | rfl | rfl | rfl | rfl <;> decide) y2 (by rcases y1 with rfl | rfl | rfl | rfl | rfl | rfl <;> rfl) (fun r hr => by rcases y1 with rfl | rfl | rfl | rfl | rfl | rfl <;> cases hr <;> exact ⟨rfl, by decide +kernel⟩) dX11_back_77 (fun M16 hM17 => ?_)
          refine JJ_iinc (v := nI (j + 1)) (lv' := [(1, .int (nI (j + 1))), (2, .ref a), (0, .ref x)]) dX11_back_80 rfl (nI_add (j) 1) (by decide) rfl ?_
          refine JJ_goto (tgt := 23) dX11_back_83 (by decide) ?_
          refine JJ.pick [0, 2] rfl ?_
          refine ih (j + 1) M16 Px (by omega) (fun q hq hqc a2 ha2 => ?_) (fun b k z1 => rd_n hM17 (by omega) (rd_n hM15 (by omega) (hf b k z1))) (fun b k z => hp b k (by omega))
          by_cases e : q = j
          · skip
            rw [e] at ha2 ⊢
            obtain rfl : a = a2 := Option.some.inj (ha.symm.trans ha2)
            exact ⟨rd_n hM17 (by omega) (rd_s hM15), rd_s hM17⟩
          · skip
            have hne : a2 ≠ a := fun y => e (hst.2.2 q j (by omega) (by omega) (by rw [ha2, ha, y]))
            have z := h1 q (by omega) hqc a2 ha2
            exact ⟨rd_n hM17 (by omega) (rd_n hM15 (by omega) z.1), rd_n hM17 (by omega) (rd_n hM15 (by omega) z.2)⟩
        · skip
          by_cases hjn : j < cn
          · skip
            obtain ⟨a, ha, hax, han, ci, y1, y2, y3, y4, y5⟩ := hst.at (q := j) (by omega)
            have hax2 : Px (x + 4) j = some a := (hp _ _ (by omega)).trans ((hPa _ _ (by omega)).trans ha)
            refine JJ_iload_n dX11_back_23 rfl rfl ?_
            refine JJ_aload_n dX11_back_24 rfl rfl ?_
            refine JJ_getr (q := x + 4) (cis := [11]) (k := 3) fa_X11_28 (by decide) (congrArg Prod.fst (hC.sh (t := 0) (k := 12) (m := 0) (by decide))) rfl (hCx.rf (t := 0) (s := 3) (u := 4) (by decide)) dX11_back_25 ?_
            refine JJ_alen (t := 3) (hC.sh (t := 4) (k := 23) (m := 6) (by decide)) (by decide) dX11_back_28 ?_
            refine JJ_icmp_ge (tgt := 86) dX11_back_29 (by decide) (fun c18 => absurd c18 (nI_ge (b := 6) (by omega) (by omega))) (fun _ => ?_)
            refine JJ_aload_n dX11_back_32 rfl rfl ?_
            refine JJ_iload_n dX11_back_33 rfl rfl ?_
            refine JJ_callV (rest := []) (congrArg Prod.fst (hC.sh (t := 0) (k := 12) (m := 0) (by decide))) rfl rfl (kc_strokeAtW hc6 hx4 (by omega) hax2 hCx hX) (by omega) mi_X11_strokeAt lk_X11_129 rfl (Nat.le_of_ble_eq_true rfl) rfl rfl dX11_back_34 ?_
            intro v19 μ20 h21
            obtain ⟨rfl, rfl⟩ := h21
            refine JJ_r1 ?_
            refine JJ_astore_n (lv' := [(2, .ref a), (1, .int (nI j)), (0, .ref x)]) dX11_back_37 rfl (by decide) rfl ?_
            refine JJ_iload_n dX11_back_38 rfl rfl ?_
            refine JJ_aload_n dX11_back_39 rfl rfl ?_
            refine JJ_geti (v := nI c) (cis := [11]) (k := 11) fa_X11_48 (by decide) (congrArg Prod.fst (hC.sh (t := 0) (k := 12) (m := 0) (by decide))) rfl (hX.1 _ _ (by omega) (by omega) (by omega)) hx11 dX11_back_40 ?_
            refine JJ_icmp_lt (tgt := 56) dX11_back_43 (by decide) (fun c22 => absurd c22 (Int32.not_lt.mpr (nI_le (by omega) (by omega)))) (fun _ => ?_)
            refine JJ_aload_n dX11_back_46 rfl rfl ?_
            refine JJ_getr (q := x + 4) (cis := [11]) (k := 3) fa_X11_28 (by decide) (congrArg Prod.fst (hC.sh (t := 0) (k := 12) (m := 0) (by decide))) rfl (hCx.rf (t := 0) (s := 3) (u := 4) (by decide)) dX11_back_47 ?_
            refine JJ_iload_n dX11_back_50 rfl rfl ?_
            refine JJ_null dX11_back_51 ?_
            refine JJ_aastNX (t := 1) (hC.sh (t := 4) (k := 23) (m := 6) (by decide)) (by decide) (IX_nI (by omega) (by omega)) dX11_back_52 (fun P23 hP24 => ?_)
            refine JJ_goto (tgt := 80) dX11_back_53 (by decide) ?_
            refine JJ_iinc (v := nI (j + 1)) (lv' := [(1, .int (nI (j + 1))), (2, .ref a), (0, .ref x)]) dX11_back_80 rfl (nI_add (j) 1) (by decide) rfl ?_
            refine JJ_goto (tgt := 23) dX11_back_83 (by decide) ?_
            refine JJ.pick [0, 2] rfl ?_
            exact ih (j + 1) Mx P23 (by omega) (fun q hq hqc => h1 q (by omega) hqc) hf (fun b k z => rd_n hP24 (by omega) (hp b k (by omega)))
          · skip
            refine JJ_iload_n dX11_back_23 rfl rfl ?_
            refine JJ_aload_n dX11_back_24 rfl rfl ?_
            refine JJ_getr (q := x + 4) (cis := [11]) (k := 3) fa_X11_28 (by decide) (congrArg Prod.fst (hC.sh (t := 0) (k := 12) (m := 0) (by decide))) rfl (hCx.rf (t := 0) (s := 3) (u := 4) (by decide)) dX11_back_25 ?_
            refine JJ_alen (t := 3) (hC.sh (t := 4) (k := 23) (m := 6) (by decide)) (by decide) dX11_back_28 ?_
            refine JJ_icmp_ge (tgt := 86) dX11_back_29 (by decide) (fun c25 => absurd c25 (nI_ge (b := 6) (by omega) (by omega))) (fun _ => ?_)
            refine JJ_aload_n dX11_back_32 rfl rfl ?_
            refine JJ_iload_n dX11_back_33 rfl rfl ?_
            refine JJ_callV (rest := []) (congrArg Prod.fst (hC.sh (t := 0) (k := 12) (m := 0) (by decide))) rfl rfl (kc_strokeNoW (cn := cn) hc6 hx4 (by omega) (by omega) hCx hX) (by omega) mi_X11_strokeAt lk_X11_129 rfl (Nat.le_of_ble_eq_true rfl) rfl rfl dX11_back_34 ?_
            intro v26 μ27 h28
            obtain ⟨rfl, rfl⟩ := h28
            refine JJ_r1 ?_
            refine JJ_astore_nN (lv' := [(2, .null), (1, .int (nI j)), (0, .ref x)]) dX11_back_37 rfl (by decide) rfl ?_
            refine JJ_iload_n dX11_back_38 rfl rfl ?_
            refine JJ_aload_n dX11_back_39 rfl rfl ?_
            refine JJ_geti (v := nI c) (cis := [11]) (k := 11) fa_X11_48 (by decide) (congrArg Prod.fst (hC.sh (t := 0) (k := 12) (m := 0) (by decide))) rfl (hX.1 _ _ (by omega) (by omega) (by omega)) hx11 dX11_back_40 ?_
            refine JJ_icmp_lt (tgt := 56) dX11_back_43 (by decide) (fun c29 => absurd c29 (Int32.not_lt.mpr (nI_le (by omega) (by omega)))) (fun _ => ?_)
            refine JJ_aload_n dX11_back_46 rfl rfl ?_
            refine JJ_getr (q := x + 4) (cis := [11]) (k := 3) fa_X11_28 (by decide) (congrArg Prod.fst (hC.sh (t := 0) (k := 12) (m := 0) (by decide))) rfl (hCx.rf (t := 0) (s := 3) (u := 4) (by decide)) dX11_back_47 ?_
            refine JJ_iload_n dX11_back_50 rfl rfl ?_
            refine JJ_null dX11_back_51 ?_
            refine JJ_aastNX (t := 1) (hC.sh (t := 4) (k := 23) (m := 6) (by decide)) (by decide) (IX_nI (by omega) (by omega)) dX11_back_52 (fun P30 hP31 => ?_)
            refine JJ_goto (tgt := 80) dX11_back_53 (by decide) ?_
            refine JJ_iinc (v := nI (j + 1)) (lv' := [(1, .int (nI (j + 1))), (2, .null), (0, .ref x)]) dX11_back_80 rfl (nI_add (j) 1) (by decide) rfl ?_
            refine JJ_goto (tgt := 23) dX11_back_83 (by decide) ?_
            refine JJ.pick [0, 2] rfl ?_
            exact ih (j + 1) Mx P30 (by omega) (fun q hq hqc => h1 q (by omega) hqc) hf (fun b k z => rd_n hP31 (by omega) (hp b k (by omega)))
    refine JJ.pick [0, 1] rfl ?_
    exact key 6 0 Ma Pa (by omega) (fun i hi => absurd hi (Nat.not_lt_zero _)) (fun _ _ _ => rfl) (fun _ _ _ => rfl)
end C24
