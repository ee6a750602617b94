section C19
variable {G : Gx} {sc : Nat → Nat → Prop} {n : Nat} {S : Nat → Nat × Nat} {M : Nat → Nat → Int32} {L : Nat → Nat → Int64} {P : Nat → Nat → Option Nat} {x : Nat} {A B : Abs}

set_option maxHeartbeats 4000000 in
set_option maxRecDepth 100000 in
theorem kc_play {s : Int32} (hA : cABS x n S P M A) (hg2 : RNG2 A) (hC : CWF x S P) (hX : HSC x sc) : KK G sc yX11_play cX11_play 3 (some .int) 11 0 0 [.ref x, .int s] (n, S, M, L, P) (cI x n S M P (.int (zr_play A s).1) (zr_play A s).2) := by
  have hg : RNG A := hg2.1
  have hrl := (rul_lt hg).1
  obtain ⟨cn, hc6, hcA, hcZ⟩ := cnt_e hg
  have h6 := (rul_lt hg).2
  have hct := hA.1
  have hrt := hct.rt hg hA.2.2.1
  have hst := hA.2.2.2.1
  refine KK_of2 [(0, .ref x), (1, .int s)] (by decide +kernel) (Nat.le_of_ble_eq_true rfl) rfl ?_
  refine JJ_aload_n dX11_play_0 rfl rfl ?_
  refine JJ_iload_n dX11_play_1 rfl rfl ?_
  refine JJ_callV (rest := []) (congrArg Prod.fst (hC.sh (t := 0) (k := 12) (m := 0) (by decide))) rfl rfl (kc_refusal hA hg2 hC hX) (by omega) mi_X11_refusalOfRally lk_X11_180 rfl (Nat.le_of_ble_eq_true rfl) rfl rfl dX11_play_2 ?_
  intro v1 μ2 h3
  obtain ⟨rfl, rfl⟩ := h3
  refine JJ_r1 ?_
  refine JJ_istore_n (lv' := [(2, .int (z_rb A s)), (0, .ref x), (1, .int s)]) dX11_play_5 rfl (by decide) rfl ?_
  refine JJ_iload_n dX11_play_6 rfl rfl ?_
  refine JJ_if_eq (tgt := 14) dX11_play_7 (by decide) (fun c4 => ?_) (fun c4 => ?_)
  · skip
    obtain ⟨k, N, hk, rfl, h16, hr⟩ := rb_rwy hg2 c4
    have hrb := c4
    have hik : i2n (nI k) = k := nI_clamp (by omega)
    have e0 : zr_play A (nI k) = (sr_wins (z_fin A k), zPut A (z_st A k (z_fin A k).1)) := (if_pos hrb).trans (by rw [hik])
    rw [e0]
    obtain ⟨⟨N2, hN4, eN, hMN, hMI⟩, -, -⟩ := sh_there hk hg2 hA.2.2.2.2.1 h16
    have hNN : N2 = N := nI_inj (by omega) (by have := hr.2.1; omega) (eN.symm.trans hr.1)
    subst hNN
    refine JJ_aload_n dX11_play_14 rfl rfl ?_
    refine JJ_aload_n dX11_play_15 rfl rfl ?_
    refine JJ_getr (q := x + 40) (cis := [11]) (k := 5) fa_X11_97 (by decide) (congrArg Prod.fst (hC.sh (t := 0) (k := 12) (m := 0) (by decide))) rfl (hC.rf (t := 0) (s := 5) (u := 40) (by decide)) dX11_play_16 ?_
    refine JJ_aload_n dX11_play_19 rfl rfl ?_
    refine JJ_iload_n dX11_play_20 rfl rfl ?_
    refine JJ_callV (rest := [.ref (x + 40), .ref x]) (congrArg Prod.fst (hC.sh (t := 0) (k := 12) (m := 0) (by decide))) rfl rfl (kc_sheetAt hk hC hX) (by omega) mi_X11_sheetAt lk_X11_196 rfl (Nat.le_of_ble_eq_true rfl) rfl rfl dX11_play_21 ?_
    intro v5 μ6 h7
    obtain ⟨rfl, rfl⟩ := h7
    refine JJ_r1 ?_
    refine JJ_callV (rest := []) (congrArg Prod.fst (hC.sh (t := 0) (k := 12) (m := 0) (by decide))) rfl rfl (kc_playOut (c := x + 40) hk hr hMN hMI hct hA.2.2.1 hst hg2.r3 hC hX) (by omega) mi_X11_playOut lk_X11_200 rfl (Nat.le_of_ble_eq_true rfl) rfl rfl dX11_play_24 ?_
    intro v8 μ9 h10
    obtain ⟨rfl, Mb, Lb, rfl, b1, b2, b3, b4, b5, b6⟩ := h10
    refine JJ_r1 ?_
    refine JJ_iret dX11_play_27 rfl ?_
    exact cI_m rfl (cABS_court hA h6 b1 (fun b k z1 z2 => zPut_o (by omega)) rfl (fun b k _ _ z z2 => b6 b k (fun e => z2 (by unfold PQ CD at e; unfold CQ at z; omega))) (fun _ _ _ _ _ _ => rfl) (fun _ _ => trivial)) hC (fun b k z => b6 b k (fun e => z (by unfold PQ CD at e; unfold cF; omega)))
  · skip
    refine JJ_iload_n dX11_play_10 rfl rfl ?_
    refine JJ_goto (tgt := 27) dX11_play_11 (by decide) ?_
    refine JJ_iret dX11_play_27 rfl ?_
    have e0 : zr_play A s = (z_rb A s, A) := if_neg c4
    rw [e0]
    exact cI_q rfl hA hC
theorem wi_n {N : Nat} (h : N ≤ 40) : s_within (nI N) 0 40 = nI N := by
  unfold s_within
  rw [if_pos (show (0 : Int32) ≤ nI N from nI_le (a := 0) (by omega) (by omega)), if_pos (show nI N ≤ 40 from nI_le (b := 40) (by omega) (by omega))]
set_option maxHeartbeats 4000000 in
set_option maxRecDepth 100000 in
theorem kc_become {s N : Nat} {so : Int32} (hN4 : N ≤ 40) (hs : s < 4) (hC : CWF x S P) (hX : HSC x sc) : KK G sc yX7_become cX7_become 4 none 1 0 0 [.ref (x + 67 + 2 * s), .int so, .int (nI N)] (n, S, M, L, P) (fun v μ => v = none ∧ ∃ M', μ = (n, S, M', L, P) ∧ M' (x + 67 + 2 * s) 1 = so ∧ M' (x + 67 + 2 * s) 2 = nI N ∧ (∀ j, j < 40 → M' (x + 67 + 2 * s + 1) j = 0) ∧ ∀ b k, b ≠ x + 67 + 2 * s → b ≠ x + 67 + 2 * s + 1 → M' b k = M b k) := by
  refine KK_of2 [(0, .ref (x + 67 + 2 * s)), (1, .int so), (2, .int (nI N))] (by decide +kernel) (Nat.le_of_ble_eq_true rfl) rfl ?_
  refine JJ_aload_n dX7_become_0 rfl rfl ?_
  refine JJ_iload_n dX7_become_1 rfl rfl ?_
  refine JJ_puti (cis := [7]) (k := 1) fa_X7_15 (by decide) (congrArg Prod.fst (hC.2.2.2.2 s hs).1) rfl (fun r hr => by cases hr; exact ⟨rfl, by decide +kernel⟩) dX7_become_2 (fun M1 hM2 => ?_)
  refine JJ_aload_n dX7_become_5 rfl rfl ?_
  refine JJ_iload_n dX7_become_6 rfl rfl ?_
  refine JJ_bipush (v := 40) dX7_become_7 rfl ?_
  refine JJ_callSN (rest := [.ref (x + 67 + 2 * s)]) (kc_within (m := 40) (by decide)) (by omega) mi_X11_within lk_X7_22 rfl (Nat.le_of_ble_eq_true rfl) rfl rfl dX7_become_9 ?_
  intro v3 μ4 h5
  obtain ⟨rfl, rfl⟩ := h5
  refine JJ_r1 ?_
  refine JJ_eqi (x2 := nI N) (wi_n hN4) ?_
  refine JJ_puti (cis := [7]) (k := 2) fa_X7_19 (by decide) (congrArg Prod.fst (hC.2.2.2.2 s hs).1) rfl (fun r hr => by cases hr; exact ⟨rfl, by decide +kernel⟩) dX7_become_12 (fun M6 hM7 => ?_)
  refine JJ_iconst (v := 0) dX7_become_15 rfl ?_
  refine JJ_istore_n (lv' := [(3, .int 0), (0, .ref (x + 67 + 2 * s)), (1, .int so), (2, .int (nI N))]) dX7_become_16 rfl (by decide) rfl ?_
  have key : ∀ (d j : Nat) (Mx : Nat → Nat → Int32), j + d = 40 → Mx (x + 67 + 2 * s) 1 = so → Mx (x + 67 + 2 * s) 2 = nI N → (∀ i, i < j → Mx (x + 67 + 2 * s + 1) i = 0) → (∀ b k, b ≠ x + 67 + 2 * s → b ≠ x + 67 + 2 * s + 1 → Mx b k = M b k) → JJ G sc yX7_become cX7_become 4 none 1 0 0 (fun v μ => v = none ∧ ∃ M', μ = (n, S, M', L, P) ∧ M' (x + 67 + 2 * s) 1 = so ∧ M' (x + 67 + 2 * s) 2 = nI N ∧ (∀ j, j < 40 → M' (x + 67 + 2 * s + 1) j = 0) ∧ ∀ b k, b ≠ x + 67 + 2 * s → b ≠ x + 67 + 2 * s + 1 → M' b k = M b k) 17 [(3, .int (nI j)), (0, .ref (x + 67 + 2 * s)), (1, .int so), (2, .int (nI N))] [] (n, S, Mx, L, P) := by
    intro d
    induction d with
    | zero =>
      intro j Mx hjd h1 h2 h3 hf
      refine JJ_iload_n dX7_become_17 rfl rfl ?_
      refine JJ_aload_n dX7_become_18 rfl rfl ?_
      refine JJ_getr (q := x + 67 + 2 * s + 1) (cis := [7]) (k := 0) fa_X7_9 (by decide) (congrArg Prod.fst (hC.2.2.2.2 s hs).1) rfl (hC.2.2.2.2 s hs).2.2 dX7_become_19 ?_
      refine JJ_alen (t := 0) (hC.2.2.2.2 s hs).2.1 (by decide) dX7_become_22 ?_
      refine JJ_icmp_ge (tgt := 39) dX7_become_23 (by decide) (fun _ => ?_) (fun c8 => absurd (nI_le (a := 40) (by omega) (by omega)) c8)
      refine JJ_vret dX7_become_39 rfl ?_
      exact ⟨rfl, Mx, rfl, h1, h2, fun i hi => h3 i (by omega), hf⟩
    | succ d ih =>
      intro j Mx hjd h1 h2 h3 hf
      refine JJ_iload_n dX7_become_17 rfl rfl ?_
      refine JJ_aload_n dX7_become_18 rfl rfl ?_
      refine JJ_getr (q := x + 67 + 2 * s + 1) (cis := [7]) (k := 0) fa_X7_9 (by decide) (congrArg Prod.fst (hC.2.2.2.2 s hs).1) rfl (hC.2.2.2.2 s hs).2.2 dX7_become_19 ?_
      refine JJ_alen (t := 0) (hC.2.2.2.2 s hs).2.1 (by decide) dX7_become_22 ?_
      refine JJ_icmp_ge (tgt := 39) dX7_become_23 (by decide) (fun c9 => absurd c9 (nI_ge (b := 40) (by omega) (by omega))) (fun _ => ?_)
      refine JJ_aload_n dX7_become_26 rfl rfl ?_
      refine JJ_getr (q := x + 67 + 2 * s + 1) (cis := [7]) (k := 0) fa_X7_9 (by decide) (congrArg Prod.fst (hC.2.2.2.2 s hs).1) rfl (hC.2.2.2.2 s hs).2.2 dX7_become_27 ?_
      refine JJ_iload_n dX7_become_30 rfl rfl ?_
      refine JJ_iconst (v := 0) dX7_become_31 rfl ?_
      refine JJ_iastX (hC.2.2.2.2 s hs).2.1 (IX_nI (by omega) (by omega)) dX7_become_32 (fun M10 hM11 => ?_)
      refine JJ_iinc (v := nI (j + 1)) (lv' := [(3, .int (nI (j + 1))), (0, .ref (x + 67 + 2 * s)), (1, .int so), (2, .int (nI N))]) dX7_become_33 rfl (nI_add (j) 1) (by decide) rfl ?_
      refine JJ_goto (tgt := 17) dX7_become_36 (by decide) ?_
      refine JJ.pick [0, 1, 2, 3] rfl ?_
      refine ih (j + 1) M10 (by omega) (rd_n hM11 (by omega) h1) (rd_n hM11 (by omega) h2) (fun i hi => ?_) (fun b k z1 z2 => rd_n hM11 (by omega) (hf b k z1 z2))
      by_cases e : i = j
      · rw [e]; exact rd_s hM11
      · exact rd_n hM11 (by omega) (h3 i (by omega))
  refine JJ.pick [0, 1, 2, 3] rfl ?_
  exact key 40 0 M6 (by omega) (rd_n hM7 (by omega) (rd_s hM2)) (rd_s hM7) (fun i hi => absurd hi (Nat.not_lt_zero _)) (fun b k z1 z2 => (rd_n hM7 (by omega) (rd_n hM2 (by omega) rfl)))
set_option maxHeartbeats 4000000 in
set_option maxRecDepth 100000 in
theorem kc_put {s N j : Nat} {v so : Int32} (hso : M (x + 67 + 2 * s) 1 = so) (hN : M (x + 67 + 2 * s) 2 = nI N) (hN4 : N ≤ 40) (hj : j < N) (hs : s < 4) (hC : CWF x S P) (hX : HSC x sc) : KK G sc yX7_put cX7_put 3 none 1 0 0 [.ref (x + 67 + 2 * s), .int (nI j), .int v] (n, S, M, L, P) (ansV (n, S, up2 M (x + 67 + 2 * s + 1) j (s_narrow so v), L, P)) := by
  refine KK_of2 [(0, .ref (x + 67 + 2 * s)), (1, .int (nI j)), (2, .int v)] (by decide +kernel) (Nat.le_of_ble_eq_true rfl) rfl ?_
  refine JJ_iload_n dX7_put_0 rfl rfl ?_
  refine JJ_if_lt (tgt := 53) dX7_put_1 (by decide) (fun c1 => absurd c1 (nI_nn (by omega))) (fun _ => ?_)
  refine JJ_iload_n dX7_put_4 rfl rfl ?_
  refine JJ_aload_n dX7_put_5 rfl rfl ?_
  refine JJ_geti (v := nI N) (cis := [7]) (k := 2) fa_X7_19 (by decide) (congrArg Prod.fst (hC.2.2.2.2 s hs).1) rfl (hX.1 _ _ (by omega) (by omega) (by omega)) hN dX7_put_6 ?_
  refine JJ_icmp_ge (tgt := 53) dX7_put_9 (by decide) (fun c2 => absurd c2 (nI_ge (by omega) (by omega))) (fun _ => ?_)
  refine JJ_iload_n dX7_put_12 rfl rfl ?_
  refine JJ_aload_n dX7_put_13 rfl rfl ?_
  refine JJ_getr (q := x + 67 + 2 * s + 1) (cis := [7]) (k := 0) fa_X7_9 (by decide) (congrArg Prod.fst (hC.2.2.2.2 s hs).1) rfl (hC.2.2.2.2 s hs).2.2 dX7_put_14 ?_
  refine JJ_alen (t := 0) (hC.2.2.2.2 s hs).2.1 (by decide) dX7_put_17 ?_
  refine JJ_icmp_ge (tgt := 53) dX7_put_18 (by decide) (fun c3 => absurd c3 (nI_ge (b := 40) (by omega) (by omega))) (fun _ => ?_)
  refine JJ_aload_n dX7_put_21 rfl rfl ?_
  refine JJ_getr (q := x + 67 + 2 * s + 1) (cis := [7]) (k := 0) fa_X7_9 (by decide) (congrArg Prod.fst (hC.2.2.2.2 s hs).1) rfl (hC.2.2.2.2 s hs).2.2 dX7_put_22 ?_
  refine JJ_iload_n dX7_put_25 rfl rfl ?_
  refine JJ_aload_n dX7_put_26 rfl rfl ?_
  refine JJ_geti (v := so) (cis := [7]) (k := 1) fa_X7_15 (by decide) (congrArg Prod.fst (hC.2.2.2.2 s hs).1) rfl (hX.1 _ _ (by omega) (by omega) (by omega)) hso dX7_put_27 ?_
  refine JJ_if_ne (tgt := 38) dX7_put_30 (by decide) (fun c4 => ?_) (fun c4 => ?_)
  · skip
    refine JJ_aload_n dX7_put_38 rfl rfl ?_
    refine JJ_geti (v := so) (cis := [7]) (k := 1) fa_X7_15 (by decide) (congrArg Prod.fst (hC.2.2.2.2 s hs).1) rfl (hX.1 _ _ (by omega) (by omega) (by omega)) hso dX7_put_39 ?_
    refine JJ_iconst (v := 1) dX7_put_42 rfl ?_
    refine JJ_icmp_ne (tgt := 51) dX7_put_43 (by decide) (fun c5 => ?_) (fun c5 => ?_)
    · skip
      refine JJ_iload_n dX7_put_51 rfl rfl ?_
      refine JJ_iastX (hC.2.2.2.2 s hs).2.1 (IX_nI (by omega) (by omega)) dX7_put_52 (fun M6 hM7 => ?_)
      refine JJ_vret dX7_put_53 rfl ?_
      exact ⟨rfl, mem_eq (by rw [hM7, (show s_narrow so v = v from (if_neg c4).trans (if_neg c5))])⟩
    · skip
      refine JJ_iload_n dX7_put_46 rfl rfl ?_
      refine JJ_i2s dX7_put_47 ?_
      refine JJ_goto (tgt := 52) dX7_put_48 (by decide) ?_
      refine JJ_iastX (hC.2.2.2.2 s hs).2.1 (IX_nI (by omega) (by omega)) dX7_put_52 (fun M8 hM9 => ?_)
      refine JJ_vret dX7_put_53 rfl ?_
      exact ⟨rfl, mem_eq (by rw [hM9, (show s_narrow so v = v.toInt16.toInt32 from (if_neg c4).trans (if_pos c5))])⟩
  · skip
    refine JJ_iload_n dX7_put_33 rfl rfl ?_
    refine JJ_i2b dX7_put_34 ?_
    refine JJ_goto (tgt := 52) dX7_put_35 (by decide) ?_
    refine JJ_iastX (hC.2.2.2.2 s hs).2.1 (IX_nI (by omega) (by omega)) dX7_put_52 (fun M10 hM11 => ?_)
    refine JJ_vret dX7_put_53 rfl ?_
    exact ⟨rfl, mem_eq (by rw [hM11, (show s_narrow so v = v.toInt8.toInt32 from if_pos c4)])⟩
theorem cABS_sheet {s N : Nat} {th so nn : Int32} {f : Nat → Int32} {M' : Nat → Nat → Int32} (hA : cABS x n S P M A) (h6 : i2n (A.1 10 0) ≤ 6) (hs : s < 4) (hk : ∀ b k, ¬ CQ x b k → b ≠ x + 67 + 2 * s → b ≠ x + 67 + 2 * s + 1 → M' b k = M b k) (h1 : M' (x + 67 + 2 * s) 1 = (if th = 0 then -1 else so)) (h2 : ¬ th = 0 → M' (x + 67 + 2 * s) 2 = nn ∧ i2n nn ≤ N ∧ ∀ j, j < i2n nn → M' (x + 67 + 2 * s + 1) j = f j) : cABS x n S P M' (zSheet A s th so nn N f) := by
  have he : ∀ b k, ¬ (16 ≤ b ∧ b < 19 ∧ k = s) → ¬ (b = 20 + s ∧ k < N) → (zSheet A s th so nn N f).1 b k = A.1 b k := fun b k z1 z2 => zsh_o ⟨z1, z2⟩
  have ho := hA.2.2.2.2.1
  refine cABS_loc hA h6 (fun b k z1 z2 z3 z4 z5 => hk b k z3 (by omega) (by omega)) (fun b k z1 z2 z3 => he _ _ (by omega) (by omega)) rfl ?_ ?_
  · intro t ht
    by_cases e : t = s
    · subst e
      rw [zsh_16, zsh_17, zsh_18]
      refine ⟨h1, fun z => ?_⟩
      obtain ⟨q1, q2, q3⟩ := h2 z
      exact ⟨q1, fun j hj => by rw [zsh_20 (by omega)]; exact q3 j hj⟩
    · rw [he 16 t (by omega) (by omega), he 17 t (by omega) (by omega), he 18 t (by omega) (by omega)]
      obtain ⟨q1, q2⟩ := ho t ht
      refine ⟨(hk _ _ (by unfold CQ; omega) (by omega) (by omega)).trans q1, fun z => ?_⟩
      obtain ⟨q3, q4⟩ := q2 z
      refine ⟨(hk _ _ (by unfold CQ; omega) (by omega) (by omega)).trans q3, fun j hj => ?_⟩
      rw [he (20 + t) j (by omega) (by omega)]
      exact (hk _ _ (by unfold CQ; omega) (by omega) (by omega)).trans (q4 j hj)
  · have := hA.2.2.2.2.2.1.keep (M' := M') (hk _ _ (by unfold CQ; omega) (by omega) (by omega)) (fun k => hk _ _ (by unfold CQ; omega) (by omega) (by omega))
    unfold TPS at *
    rw [he 12 0 (by omega) (by omega)]
    refine ⟨this.1, fun i hi => ?_⟩
    rw [he 11 i (by omega) (by omega)]
    exact this.2 i hi
set_option maxHeartbeats 4000000 in
set_option maxRecDepth 100000 in
theorem kc_sheet {s so nn : Int32} (hA : cABS x n S P M A) (hg2 : RNG2 A) (hC : CWF x S P) (hX : HSC x sc) : KK G sc yX11_sheet cX11_sheet 5 (some .int) 2 0 0 [.ref x, .int s, .int so, .int nn] (n, S, M, L, P) (cI x n S M P (.int (zr_sheet A s so nn).1) (zr_sheet A s so nn).2) := by
  have hg : RNG A := hg2.1
  have hrl := (rul_lt hg).1
  obtain ⟨cn, hc6, hcA, hcZ⟩ := cnt_e hg
  have h6 := (rul_lt hg).2
  have hct := hA.1
  have hrt := hct.rt hg hA.2.2.1
  have hst := hA.2.2.2.1
  have z0 : (0 : Int32).toInt = 0 := rfl
  have zm : (-1 : Int32).toInt = -1 := rfl
  have z2 : (2 : Int32).toInt = 2 := rfl
  have z40 : (40 : Int32).toInt = 40 := rfl
  by_cases hs0 : isSh s
  · skip
    obtain ⟨k, hk3, rfl⟩ := n_of (m := 3) (by decide) hs0
    have hk : k < 4 := by omega
    have hik : i2n (nI k) = k := nI_clamp (by omega)
    by_cases hso : -1 ≤ so.toInt ∧ so.toInt ≤ 2
    · skip
      by_cases hs1 : 0 ≤ so.toInt
      · skip
        have hso0 : (0 : Int32) ≤ so := i_le.mpr hs1
        have hne : ¬ so = -1 := fun e => by rw [e] at hs1; exact absurd hs1 (by decide)
        by_cases h40 : 40 < nn
        · skip
          have e0 : zr_sheet A (nI k) so nn = (-2, A) := (if_neg (fun z => z ⟨hs0, hso⟩)).trans ((if_pos hso0).trans (if_pos h40))
          rw [e0]
          refine KK_of2 [(0, .ref x), (1, .int (nI k)), (2, .int so), (3, .int nn)] (by decide +kernel) (Nat.le_of_ble_eq_true rfl) rfl ?_
          refine JJ_aload_n dX11_sheet_0 rfl rfl ?_
          refine JJ_iload_n dX11_sheet_1 rfl rfl ?_
          refine JJ_callV (rest := []) (congrArg Prod.fst (hC.sh (t := 0) (k := 12) (m := 0) (by decide))) rfl rfl (kc_sheetAt hk hC hX) (by omega) mi_X11_sheetAt lk_X11_196 rfl (Nat.le_of_ble_eq_true rfl) rfl rfl dX11_sheet_2 ?_
          intro v1 μ2 h3
          obtain ⟨rfl, rfl⟩ := h3
          refine JJ_r1 ?_
          refine JJ_astore (lv' := [(4, .ref (x + 67 + 2 * k)), (0, .ref x), (1, .int (nI k)), (2, .int so), (3, .int nn)]) dX11_sheet_5 (by decide) rfl ?_
          refine JJ_aload dX11_sheet_7 rfl ?_
          refine JJ_ifnullR dX11_sheet_9 ?_
          refine JJ_iload_n dX11_sheet_12 rfl rfl ?_
          refine JJ_iconst (v := (-1)) dX11_sheet_13 rfl ?_
          refine JJ_icmp_lt (tgt := 22) dX11_sheet_14 (by decide) (fun c4 => absurd c4 (fun y => by rw [i_lt] at y; omega)) (fun _ => ?_)
          refine JJ_iload_n dX11_sheet_17 rfl rfl ?_
          refine JJ_iconst (v := 2) dX11_sheet_18 rfl ?_
          refine JJ_icmp_le (tgt := 25) dX11_sheet_19 (by decide) (fun _ => ?_) (fun c5 => absurd (by rw [i_le]; omega) c5)
          refine JJ_iload_n dX11_sheet_25 rfl rfl ?_
          refine JJ_iconst (v := (-1)) dX11_sheet_26 rfl ?_
          refine JJ_icmp_ne (tgt := 39) dX11_sheet_27 (by decide) (fun _ => ?_) (fun c6 => absurd c6 hne)
          refine JJ_iload_n dX11_sheet_39 rfl rfl ?_
          refine JJ_bipush (v := 40) dX11_sheet_40 rfl ?_
          refine JJ_icmp_le (tgt := 48) dX11_sheet_42 (by decide) (fun c7 => absurd c7 (fun y => absurd h40 (Int32.not_lt.mpr y))) (fun _ => ?_)
          refine JJ_bipush (v := (-2)) dX11_sheet_45 rfl ?_
          refine JJ_iret dX11_sheet_47 rfl ?_
          exact cI_q rfl hA hC
        · skip
          by_cases hn0 : nn < 0
          · skip
            have e0 : zr_sheet A (nI k) so nn = (-14, A) := (if_neg (fun z => z ⟨hs0, hso⟩)).trans ((if_pos hso0).trans ((if_neg h40).trans (if_pos hn0)))
            rw [e0]
            refine KK_of2 [(0, .ref x), (1, .int (nI k)), (2, .int so), (3, .int nn)] (by decide +kernel) (Nat.le_of_ble_eq_true rfl) rfl ?_
            refine JJ_aload_n dX11_sheet_0 rfl rfl ?_
            refine JJ_iload_n dX11_sheet_1 rfl rfl ?_
            refine JJ_callV (rest := []) (congrArg Prod.fst (hC.sh (t := 0) (k := 12) (m := 0) (by decide))) rfl rfl (kc_sheetAt hk hC hX) (by omega) mi_X11_sheetAt lk_X11_196 rfl (Nat.le_of_ble_eq_true rfl) rfl rfl dX11_sheet_2 ?_
            intro v8 μ9 h10
            obtain ⟨rfl, rfl⟩ := h10
            refine JJ_r1 ?_
            refine JJ_astore (lv' := [(4, .ref (x + 67 + 2 * k)), (0, .ref x), (1, .int (nI k)), (2, .int so), (3, .int nn)]) dX11_sheet_5 (by decide) rfl ?_
            refine JJ_aload dX11_sheet_7 rfl ?_
            refine JJ_ifnullR dX11_sheet_9 ?_
            refine JJ_iload_n dX11_sheet_12 rfl rfl ?_
            refine JJ_iconst (v := (-1)) dX11_sheet_13 rfl ?_
            refine JJ_icmp_lt (tgt := 22) dX11_sheet_14 (by decide) (fun c11 => absurd c11 (fun y => by rw [i_lt] at y; omega)) (fun _ => ?_)
            refine JJ_iload_n dX11_sheet_17 rfl rfl ?_
            refine JJ_iconst (v := 2) dX11_sheet_18 rfl ?_
            refine JJ_icmp_le (tgt := 25) dX11_sheet_19 (by decide) (fun _ => ?_) (fun c12 => absurd (by rw [i_le]; omega) c12)
            refine JJ_iload_n dX11_sheet_25 rfl rfl ?_
            refine JJ_iconst (v := (-1)) dX11_sheet_26 rfl ?_
            refine JJ_icmp_ne (tgt := 39) dX11_sheet_27 (by decide) (fun _ => ?_) (fun c13 => absurd c13 hne)
            refine JJ_iload_n dX11_sheet_39 rfl rfl ?_
            refine JJ_bipush (v := 40) dX11_sheet_40 rfl ?_
            refine JJ_icmp_le (tgt := 48) dX11_sheet_42 (by decide) (fun _ => ?_) (fun c14 => absurd (Int32.not_lt.mp h40) c14)
            refine JJ_iload_n dX11_sheet_48 rfl rfl ?_
            refine JJ_if_ge (tgt := 55) dX11_sheet_49 (by decide) (fun c15 => absurd c15 (fun y => Int32.not_lt.mpr y hn0)) (fun _ => ?_)
            refine JJ_bipush (v := (-14)) dX11_sheet_52 rfl ?_
            refine JJ_iret dX11_sheet_54 rfl ?_
            exact cI_q rfl hA hC
          · skip
            obtain ⟨N, hN4, rfl⟩ := n_of (s := nn) (m := 40) (by decide) ⟨by have y := Int32.not_lt.mp hn0; rw [i_le] at y; exact y, by have y := Int32.not_lt.mp h40; rw [i_le] at y; exact y⟩
            have e0 : zr_sheet A (nI k) so (nI N) = (1, zSheet A k 1 so (nI N) N (fun _ => 0)) := (if_neg (fun z => z ⟨hs0, hso⟩)).trans ((if_pos hso0).trans ((if_neg h40).trans ((if_neg hn0).trans (by rw [hik, show i2n (nI N) = N from nI_clamp (by omega)]))))
            rw [e0]
            refine KK_of2 [(0, .ref x), (1, .int (nI k)), (2, .int so), (3, .int (nI N))] (by decide +kernel) (Nat.le_of_ble_eq_true rfl) rfl ?_
            refine JJ_aload_n dX11_sheet_0 rfl rfl ?_
            refine JJ_iload_n dX11_sheet_1 rfl rfl ?_
            refine JJ_callV (rest := []) (congrArg Prod.fst (hC.sh (t := 0) (k := 12) (m := 0) (by decide))) rfl rfl (kc_sheetAt hk hC hX) (by omega) mi_X11_sheetAt lk_X11_196 rfl (Nat.le_of_ble_eq_true rfl) rfl rfl dX11_sheet_2 ?_
            intro v16 μ17 h18
            obtain ⟨rfl, rfl⟩ := h18
            refine JJ_r1 ?_
            refine JJ_astore (lv' := [(4, .ref (x + 67 + 2 * k)), (0, .ref x), (1, .int (nI k)), (2, .int so), (3, .int (nI N))]) dX11_sheet_5 (by decide) rfl ?_
            refine JJ_aload dX11_sheet_7 rfl ?_
            refine JJ_ifnullR dX11_sheet_9 ?_
            refine JJ_iload_n dX11_sheet_12 rfl rfl ?_
            refine JJ_iconst (v := (-1)) dX11_sheet_13 rfl ?_
            refine JJ_icmp_lt (tgt := 22) dX11_sheet_14 (by decide) (fun c19 => absurd c19 (fun y => by rw [i_lt] at y; omega)) (fun _ => ?_)
            refine JJ_iload_n dX11_sheet_17 rfl rfl ?_
            refine JJ_iconst (v := 2) dX11_sheet_18 rfl ?_
            refine JJ_icmp_le (tgt := 25) dX11_sheet_19 (by decide) (fun _ => ?_) (fun c20 => absurd (by rw [i_le]; omega) c20)
            refine JJ_iload_n dX11_sheet_25 rfl rfl ?_
            refine JJ_iconst (v := (-1)) dX11_sheet_26 rfl ?_
            refine JJ_icmp_ne (tgt := 39) dX11_sheet_27 (by decide) (fun _ => ?_) (fun c21 => absurd c21 hne)
            refine JJ_iload_n dX11_sheet_39 rfl rfl ?_
            refine JJ_bipush (v := 40) dX11_sheet_40 rfl ?_
            refine JJ_icmp_le (tgt := 48) dX11_sheet_42 (by decide) (fun _ => ?_) (fun c22 => absurd (Int32.not_lt.mp h40) c22)
            refine JJ_iload_n dX11_sheet_48 rfl rfl ?_
            refine JJ_if_ge (tgt := 55) dX11_sheet_49 (by decide) (fun _ => ?_) (fun c23 => absurd (Int32.not_lt.mp hn0) c23)
            refine JJ_aload dX11_sheet_55 rfl ?_
            refine JJ_iload_n dX11_sheet_57 rfl rfl ?_
            refine JJ_iload_n dX11_sheet_58 rfl rfl ?_
            refine JJ_callV (rest := []) (congrArg Prod.fst (hC.2.2.2.2 k hk).1) rfl rfl (kc_become (N := N) (so := so) hN4 hk hC hX) (by omega) mi_X7_become lk_X11_238 rfl (Nat.le_of_ble_eq_true rfl) rfl rfl dX11_sheet_59 ?_
            intro v24 μ25 h26
            obtain ⟨rfl, Mb, rfl, c1, c2, c3, c4⟩ := h26
            refine JJ_r0 ?_
            refine JJ_iconst (v := 1) dX11_sheet_62 rfl ?_
            refine JJ_iret dX11_sheet_63 rfl ?_
            exact cI_m rfl (cABS_sheet hA h6 hk (fun b k z1 z2 z3 => c4 b k z2 z3) (c1.trans (if_neg (by decide)).symm) (fun _ => ⟨c2, by show (nI N).toNatClampNeg ≤ N; rw [nI_clamp (by omega)]; exact Nat.le_refl _, fun j hj => c3 j (by rw [show i2n (nI N) = N from nI_clamp (by omega)] at hj; omega)⟩)) hC (fun b k z => c4 b k (fun e => z (by unfold cF; omega)) (fun e => z (by unfold cF; omega)))
      · skip
        have hm1 : so = -1 := by rw [i_eq]; omega
        subst hm1
        have e0 : zr_sheet A (nI k) (-1) nn = (1, zSheet A k 0 (-1) nn 0 (fun _ => 0)) := (if_neg (fun z => z ⟨hs0, hso⟩)).trans ((if_neg (by decide)).trans (by rw [hik]))
        rw [e0]
        refine KK_of2 [(0, .ref x), (1, .int (nI k)), (2, .int ((-1))), (3, .int nn)] (by decide +kernel) (Nat.le_of_ble_eq_true rfl) rfl ?_
        refine JJ_aload_n dX11_sheet_0 rfl rfl ?_
        refine JJ_iload_n dX11_sheet_1 rfl rfl ?_
        refine JJ_callV (rest := []) (congrArg Prod.fst (hC.sh (t := 0) (k := 12) (m := 0) (by decide))) rfl rfl (kc_sheetAt hk hC hX) (by omega) mi_X11_sheetAt lk_X11_196 rfl (Nat.le_of_ble_eq_true rfl) rfl rfl dX11_sheet_2 ?_
        intro v27 μ28 h29
        obtain ⟨rfl, rfl⟩ := h29
        refine JJ_r1 ?_
        refine JJ_astore (lv' := [(4, .ref (x + 67 + 2 * k)), (0, .ref x), (1, .int (nI k)), (2, .int ((-1))), (3, .int nn)]) dX11_sheet_5 (by decide) rfl ?_
        refine JJ_aload dX11_sheet_7 rfl ?_
        refine JJ_ifnullR dX11_sheet_9 ?_
        refine JJ_iload_n dX11_sheet_12 rfl rfl ?_
        refine JJ_iconst (v := (-1)) dX11_sheet_13 rfl ?_
        refine JJ_icmp_lt (tgt := 22) dX11_sheet_14 (by decide) (fun c30 => absurd c30 (by decide)) (fun _ => ?_)
        refine JJ_iload_n dX11_sheet_17 rfl rfl ?_
        refine JJ_iconst (v := 2) dX11_sheet_18 rfl ?_
        refine JJ_icmp_le (tgt := 25) dX11_sheet_19 (by decide) (fun _ => ?_) (fun c31 => absurd (by decide) c31)
        refine JJ_iload_n dX11_sheet_25 rfl rfl ?_
        refine JJ_iconst (v := (-1)) dX11_sheet_26 rfl ?_
        refine JJ_icmp_ne (tgt := 39) dX11_sheet_27 (by decide) (fun c32 => absurd (by decide) c32) (fun _ => ?_)
        refine JJ_aload dX11_sheet_30 rfl ?_
        refine JJ_iconst (v := (-1)) dX11_sheet_32 rfl ?_
        refine JJ_iconst (v := 0) dX11_sheet_33 rfl ?_
        refine JJ_callV (rest := []) (congrArg Prod.fst (hC.2.2.2.2 k hk).1) rfl rfl (kc_become (N := 0) (so := (-1)) (by omega) hk hC hX) (by omega) mi_X7_become lk_X11_238 rfl (Nat.le_of_ble_eq_true rfl) rfl rfl dX11_sheet_34 ?_
        intro v33 μ34 h35
        obtain ⟨rfl, Mb, rfl, c1, c2, c3, c4⟩ := h35
        refine JJ_r0 ?_
        refine JJ_iconst (v := 1) dX11_sheet_37 rfl ?_
        refine JJ_iret dX11_sheet_38 rfl ?_
        exact cI_m rfl (cABS_sheet hA h6 hk (fun b k z1 z2 z3 => c4 b k z2 z3) (c1.trans (if_pos rfl).symm) (fun z => absurd rfl z)) hC (fun b k z => c4 b k (fun e => z (by unfold cF; omega)) (fun e => z (by unfold cF; omega)))
    · skip
      have e0 : zr_sheet A (nI k) so nn = (-2, A) := if_pos (fun z => hso z.2)
      rw [e0]
      refine KK_of2 [(0, .ref x), (1, .int (nI k)), (2, .int so), (3, .int nn)] (by decide +kernel) (Nat.le_of_ble_eq_true rfl) rfl ?_
      refine JJ_aload_n dX11_sheet_0 rfl rfl ?_
      refine JJ_iload_n dX11_sheet_1 rfl rfl ?_
      refine JJ_callV (rest := []) (congrArg Prod.fst (hC.sh (t := 0) (k := 12) (m := 0) (by decide))) rfl rfl (kc_sheetAt hk hC hX) (by omega) mi_X11_sheetAt lk_X11_196 rfl (Nat.le_of_ble_eq_true rfl) rfl rfl dX11_sheet_2 ?_
      intro v36 μ37 h38
      obtain ⟨rfl, rfl⟩ := h38
      refine JJ_r1 ?_
      refine JJ_astore (lv' := [(4, .ref (x + 67 + 2 * k)), (0, .ref x), (1, .int (nI k)), (2, .int so), (3, .int nn)]) dX11_sheet_5 (by decide) rfl ?_
      refine JJ_aload dX11_sheet_7 rfl ?_
      refine JJ_ifnullR dX11_sheet_9 ?_
      refine JJ_iload_n dX11_sheet_12 rfl rfl ?_
      refine JJ_iconst (v := (-1)) dX11_sheet_13 rfl ?_
      refine JJ_icmp_lt (tgt := 22) dX11_sheet_14 (by decide) (fun c39 => ?_) (fun c39 => ?_)
      · skip
        refine JJ_bipush (v := (-2)) dX11_sheet_22 rfl ?_
        refine JJ_iret dX11_sheet_24 rfl ?_
        exact cI_q rfl hA hC
      · skip
        refine JJ_iload_n dX11_sheet_17 rfl rfl ?_
        refine JJ_iconst (v := 2) dX11_sheet_18 rfl ?_
        refine JJ_icmp_le (tgt := 25) dX11_sheet_19 (by decide) (fun c40 => absurd c40 (fun y => by have y1 := c39; rw [i_lt] at y1; rw [i_le] at y; omega)) (fun _ => ?_)
        refine JJ_bipush (v := (-2)) dX11_sheet_22 rfl ?_
        refine JJ_iret dX11_sheet_24 rfl ?_
        exact cI_q rfl hA hC
  · skip
    have e0 : zr_sheet A s so nn = (-2, A) := if_pos (fun z => hs0 z.1)
    rw [e0]
    refine KK_of2 [(0, .ref x), (1, .int s), (2, .int so), (3, .int nn)] (by decide +kernel) (Nat.le_of_ble_eq_true rfl) rfl ?_
    refine JJ_aload_n dX11_sheet_0 rfl rfl ?_
    refine JJ_iload_n dX11_sheet_1 rfl rfl ?_
    refine JJ_callV (rest := []) (congrArg Prod.fst (hC.sh (t := 0) (k := 12) (m := 0) (by decide))) rfl rfl (kc_sheetNo hs0 hC hX) (by omega) mi_X11_sheetAt lk_X11_196 rfl (Nat.le_of_ble_eq_true rfl) rfl rfl dX11_sheet_2 ?_
    intro v41 μ42 h43
    obtain ⟨rfl, rfl⟩ := h43
    refine JJ_r1 ?_
    refine JJ_astoreN (lv' := [(4, .null), (0, .ref x), (1, .int s), (2, .int so), (3, .int nn)]) dX11_sheet_5 (by decide) rfl ?_
    refine JJ_aloadN dX11_sheet_7 rfl ?_
    refine JJ_ifnullN (tgt := 22) dX11_sheet_9 (by decide) ?_
    refine JJ_bipush (v := (-2)) dX11_sheet_22 rfl ?_
    refine JJ_iret dX11_sheet_24 rfl ?_
    exact cI_q rfl hA hC
end C19
