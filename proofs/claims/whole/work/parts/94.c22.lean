section C22
variable {G : Gx} {sc : Nat → Nat → Prop} {n : Nat} {S : Nat → Nat × Nat} {M : Nat → Nat → Int32} {L : Nat → Nat → Int64} {P : Nat → Nat → Option Nat} {x : Nat} {A B : Abs}

theorem zb_0 {f : Nat → Prop} {k : Nat} (h : ¬ f k) : zbits f (k + 1) = zbits f k := by
  rw [zbits_0 h, Int32.zero_shiftLeft, Int32.or_zero]
theorem CTA_q {c q : Nat} {v : Int32} {M1 : Nat → Nat → Int32} (hc : CTA x c P M A) (hq : q < 2) (h : M1 = up2 M (c + 1 + q) 2 v) : CTA x c P M1 (zSet A q v) := by
  have he : ∀ b k, ¬ (b = 2 ∧ k = q) → (zSet A q v).1 b k = A.1 b k := fun b k z => (zset_q (by omega)).trans (if_neg z)
  refine ⟨hc.1, fun p hp => ⟨?_, ?_, ?_, ?_⟩, ?_, ?_⟩
  · rw [he _ _ (by omega)]; exact rd_n h (by omega) (hc.c0 hp)
  · rw [he _ _ (by omega)]; exact rd_n h (by omega) (hc.c1 hp)
  · by_cases e : p = q
    · subst e
      exact (rd_s h).trans ((zset_q (by omega)).trans (if_pos ⟨rfl, rfl⟩)).symm
    · rw [he _ _ (by omega)]; exact rd_n h (by omega) (hc.c2 hp)
  · rw [he _ _ (by omega)]; exact rd_n h (by omega) (hc.c3 hp)
  · rw [he _ _ (by omega)]; exact rd_n h (by omega) hc.w
  · rw [he _ _ (by omega)]; exact hc.2.2.2
theorem CTA_r {c r : Nat} {P1 : Nat → Nat → Option Nat} (hc : CTA x c P M A) (hr : r < 1000) (h : P1 = up2 P c 3 (some (x + 10 + 5 * r))) : CTA x c P1 M (zSet A 2 (nI r)) := by
  have he : ∀ b k, ¬ (b = 9 ∧ k = 0) → (zSet A 2 (nI r)).1 b k = A.1 b k := fun b k z => zset_2.trans (if_neg z)
  refine ⟨hc.1, fun p hp => ?_, ?_, ?_⟩
  · rw [he _ _ (by omega), he _ _ (by omega), he _ _ (by omega), he _ _ (by omega)]; exact hc.2.1 p hp
  · rw [he _ _ (by omega)]; exact hc.w
  · rw [show (zSet A 2 (nI r)).1 9 0 = nI r from zset_2.trans (if_pos ⟨rfl, rfl⟩), show i2n (nI r) = r from nI_clamp (by omega)]
    exact rd_s h
theorem set_same {q : Nat} {v : Int32} : (∀ b k, b ≠ 2 → b ≠ 9 → (zSet A q v).1 b k = A.1 b k) ∧ (zSet A q v).2 = A.2 := ⟨fun b k h1 h2 => zset_o ⟨h2, h1⟩, rfl⟩
theorem TXS_set {q : Nat} {v : Int32} (h : TXS x M A) : TXS x M (zSet A q v) := ⟨fun i hi => h.1 i (by rw [← set_same.1 10 0 (by decide) (by decide)]; exact hi), h.2⟩
theorem zcnt_set {q : Nat} {v : Int32} : zcnt (zSet A q v) = zcnt A := by show i2n _ = i2n _; rw [set_same.1 8 0 (by decide) (by decide)]
theorem STS_set {q : Nat} {v : Int32} {n : Nat} (h : STS x n S P M A) : STS x n S P M (zSet A q v) := by
  unfold STS at *
  rw [zcnt_set, set_same.1 8 0 (by decide) (by decide)]
  refine ⟨h.1, fun u hu => ?_, h.2.2⟩
  rw [set_same.1 5 u (by decide) (by decide), set_same.1 6 u (by decide) (by decide), set_same.1 7 u (by decide) (by decide)]
  exact h.2.1 u hu
theorem RWY_set {q s N : Nat} {v : Int32} (h : RWY A s N) : RWY (zSet A q v) s N := by
  unfold RWY at *
  rw [zcnt_set, set_same.1 18 s (by decide) (by decide)]
  refine ⟨h.1, h.2.1, fun j hj => ?_⟩
  rw [set_same.1 (20 + s) j (by omega) (by omega)]
  exact h.2.2 j hj
theorem rn3_set {q : Nat} {v : Int32} (hg : RN3 A) (hv : q = 2 → ∃ r, r < i2n (A.1 10 0) ∧ v = nI r) : RN3 (zSet A q v) := by
  refine ⟨rng_set hg.1 hv, fun p hp => ?_, ?_, fun u hu => ?_⟩
  · rw [set_same.1 1 p (by decide) (by decide)]; exact hg.2.1 p hp
  · rw [set_same.1 4 0 (by decide) (by decide)]; exact hg.2.2.1
  · rw [set_same.1 5 u (by decide) (by decide), set_same.1 6 u (by decide) (by decide)]
    exact hg.2.2.2 u (by rw [← zcnt_set (q := q) (v := v)]; exact hu)
set_option maxHeartbeats 4000000 in
set_option maxRecDepth 100000 in
theorem kc_quicksBy {k N q : Nat} {who : Int32} (hq : q < 2) (hk : k < 4) (h16 : ¬ A.1 16 k = 0) (hr : RWY A k N) (hA : cABS x n S P M A) (hg2 : RNG2 A) (hC : CWF x S P) (hX : HSC x sc) : KK G sc yX11_quicksBy cX11_quicksBy 6 (some .int) 9 0 0 [.ref x, .ref (x + 67 + 2 * k), .int (nI q), .int who] (n, S, M, L, P) (QP x n S M P (zbits (fun v => sr_wins (z_fin (zSet A q (nI v)) k) = who) 10)) := by
  have hg : RNG A := hg2.1
  have hrl := (rul_lt hg).1
  obtain ⟨cn, hc6, hcA, hcZ⟩ := cnt_e hg
  have h6 := (rul_lt hg).2
  have hct := hA.1
  have hrt := hct.rt hg hA.2.2.1
  have hst := hA.2.2.2.1
  have hC0 : CRT0 x (x + 43) := ⟨1, by decide, by omega⟩
  refine KK_of2 [(0, .ref x), (1, .ref (x + 67 + 2 * k)), (2, .int (nI q)), (3, .int who)] (by decide +kernel) (Nat.le_of_ble_eq_true rfl) rfl ?_
  refine JJ_iconst (v := 0) dX11_quicksBy_0 rfl ?_
  refine JJ_istore (lv' := [(4, .int 0), (0, .ref x), (1, .ref (x + 67 + 2 * k)), (2, .int (nI q)), (3, .int who)]) dX11_quicksBy_1 (by decide) rfl ?_
  refine JJ_iconst (v := 0) dX11_quicksBy_3 rfl ?_
  refine JJ_istore (lv' := [(5, .int 0), (4, .int 0), (0, .ref x), (1, .ref (x + 67 + 2 * k)), (2, .int (nI q)), (3, .int who)]) dX11_quicksBy_4 (by decide) rfl ?_
  have key : ∀ (d v : Nat) (Mx : Nat → Nat → Int32) (Lx : Nat → Nat → Int64) (Px : Nat → Nat → Option Nat), v + d = 10 → (∀ b k, ¬ CQ x b k → Mx b k = M b k) → (∀ b k, ¬ CQP x b k → Px b k = P b k) → JJ G sc yX11_quicksBy cX11_quicksBy 6 (some .int) 9 0 0 (QP x n S M P (zbits (fun v => sr_wins (z_fin (zSet A q (nI v)) k) = who) 10)) 6 [(5, .int (nI v)), (4, .int (zbits (fun v => sr_wins (z_fin (zSet A q (nI v)) k) = who) v)), (0, .ref x), (1, .ref (x + 67 + 2 * k)), (2, .int (nI q)), (3, .int who)] [] (n, S, Mx, Lx, Px) := by
    intro d
    induction d with
    | zero =>
      intro v Mx Lx Px hvd hMx hPx
      have hCx : CWF x S Px := hC.keep (fun b k _ _ z => hPx b k z)
      have hAx : cABS x n S Px Mx A := hA.keep h6 (fun b k _ _ z => hMx b k z) (fun b k _ _ z => hPx b k z) (fun _ _ => trivial)
      have hvK : v = 10 := by omega
      refine JJ_iload dX11_quicksBy_6 rfl ?_
      refine JJ_bipush (v := 9) dX11_quicksBy_8 rfl ?_
      refine JJ_icmp_gt (tgt := 65) dX11_quicksBy_10 (by decide) (fun _ => ?_) (fun c1 => absurd (nI_lt1 (k := 9) (by omega) (by omega)) c1)
      refine JJ_iload dX11_quicksBy_65 rfl ?_
      refine JJ_iret dX11_quicksBy_67 rfl ?_
      exact ⟨by rw [hvK], Mx, Lx, Px, rfl, hMx, hPx⟩
    | succ d ih =>
      intro v Mx Lx Px hvd hMx hPx
      have hCx : CWF x S Px := hC.keep (fun b k _ _ z => hPx b k z)
      have hAx : cABS x n S Px Mx A := hA.keep h6 (fun b k _ _ z => hMx b k z) (fun b k _ _ z => hPx b k z) (fun _ _ => trivial)
      obtain ⟨⟨N2, hN4, eN, hMN, hMI⟩, -, -⟩ := sh_there hk hg2 hAx.2.2.2.2.1 h16
      have hNN : N2 = N := nI_inj (by omega) (by have := hr.2.1; omega) (eN.symm.trans hr.1)
      subst hNN
      refine JJ_iload dX11_quicksBy_6 rfl ?_
      refine JJ_bipush (v := 9) dX11_quicksBy_8 rfl ?_
      refine JJ_icmp_gt (tgt := 65) dX11_quicksBy_10 (by decide) (fun c2 => absurd c2 (Int32.not_lt.mpr (nI_le (b := 9) (by omega) (by omega)))) (fun _ => ?_)
      refine JJ_aload_n dX11_quicksBy_13 rfl rfl ?_
      refine JJ_getr (q := x + 43) (cis := [11]) (k := 6) fa_X11_101 (by decide) (congrArg Prod.fst (hC.sh (t := 0) (k := 12) (m := 0) (by decide))) rfl (hCx.rf (t := 0) (s := 6) (u := 43) (by decide)) dX11_quicksBy_14 ?_
      refine JJ_aload_n dX11_quicksBy_17 rfl rfl ?_
      refine JJ_getr (q := x + 40) (cis := [11]) (k := 5) fa_X11_97 (by decide) (congrArg Prod.fst (hC.sh (t := 0) (k := 12) (m := 0) (by decide))) rfl (hCx.rf (t := 0) (s := 5) (u := 40) (by decide)) dX11_quicksBy_18 ?_
      refine JJ_callV (rest := []) (congrArg Prod.fst (hC.2.2.2.1 1 (by decide)).1) rfl rfl (kc_take (c := x + 43) (e := x + 40) (by omega) hC0 hAx.1.1 hAx.1.2.2.2 hCx hX) (by omega) mi_X1_take lk_X11_245 rfl (Nat.le_of_ble_eq_true rfl) rfl rfl dX11_quicksBy_21 ?_
      intro v3 μ4 h5
      obtain ⟨rfl, Ma, Pa, rfl, htk1, htk2, htk3, htk4⟩ := h5
      refine JJ_r0 ?_
      have hPa : ∀ b k, ¬ CQP x b k → Pa b k = Px b k := fun b k z => rd_n htk4 (fun e => z (by unfold CQP; omega)) rfl
      have hMa : ∀ b k, ¬ CQ x b k → Ma b k = Mx b k := fun b k z => htk3 b k (by unfold CQ at z; omega)
      have hctA : CTA x (x + 43) Pa Ma A := CTA_take hAx.1 hC0 htk1 htk2 htk4
      have hCa : CWF x S Pa := hCx.keep (fun b k _ _ z => hPa b k z)
      have hAa : cABS x n S Pa Ma A := hAx.keep h6 (fun b k _ _ z => hMa b k z) (fun b k _ _ z => hPa b k z) (fun _ _ => trivial)
      refine JJ_aload_n dX11_quicksBy_24 rfl rfl ?_
      refine JJ_getr (q := x + 43) (cis := [11]) (k := 6) fa_X11_101 (by decide) (congrArg Prod.fst (hC.sh (t := 0) (k := 12) (m := 0) (by decide))) rfl (hCa.rf (t := 0) (s := 6) (u := 43) (by decide)) dX11_quicksBy_25 ?_
      refine JJ_iload_n dX11_quicksBy_28 rfl rfl ?_
      refine JJ_callV (rest := []) (congrArg Prod.fst (hC.2.2.2.1 1 (by decide)).1) rfl rfl (kc_one (c := x + 43) (p := q) hq (hctA.rt hg hAa.2.2.1) hCa hX) (by omega) mi_X1_one lk_X11_119 rfl (Nat.le_of_ble_eq_true rfl) rfl rfl dX11_quicksBy_29 ?_
      intro v6 μ7 h8
      obtain ⟨rfl, rfl⟩ := h8
      refine JJ_r1 ?_
      refine JJ_iload dX11_quicksBy_32 rfl ?_
      refine JJ_puti (cis := [6]) (k := 2) fa_X11_331 (by decide) (hC0.pl hC (p := q) hq) rfl (fun r hr => by cases hr; exact ⟨rfl, by decide +kernel⟩) dX11_quicksBy_34 (fun M9 hM10 => ?_)
      refine JJ_aload_n dX11_quicksBy_37 rfl rfl ?_
      refine JJ_aload_n dX11_quicksBy_38 rfl rfl ?_
      refine JJ_getr (q := x + 43) (cis := [11]) (k := 6) fa_X11_101 (by decide) (congrArg Prod.fst (hC.sh (t := 0) (k := 12) (m := 0) (by decide))) rfl (hCa.rf (t := 0) (s := 6) (u := 43) (by decide)) dX11_quicksBy_39 ?_
      refine JJ_aload_n dX11_quicksBy_42 rfl rfl ?_
      have hctB := CTA_q hctA hq hM10
      have hfm : ∀ b k, ¬ CQ x b k → M9 b k = Mx b k := fun b k z => rd_n hM10 (fun e => z (by unfold CQ; omega)) (hMa b k z)
      have hfp : ∀ b k, ¬ CQP x b k → Pa b k = Px b k := hPa
      have hCb := hCa
      have htB : TXS x M9 A := hAx.2.2.1.keep (fun b k z1 z2 => hfm b k (by unfold CQ; omega)) h6
      have hsB : STS x n S Pa M9 A := hAx.2.2.2.1.keep (hfm _ _ (by unfold CQ; omega)) (fun b k z => hfm b k (by unfold CQ; omega)) (fun k => hfp _ _ (by unfold CQP; omega))
      refine JJ_callV (rest := []) (congrArg Prod.fst (hC.sh (t := 0) (k := 12) (m := 0) (by decide))) rfl rfl (kc_playOut (c := x + 43) hk (RWY_set hr) ((hfm _ _ (by unfold CQ; omega)).trans hMN) (fun j hj => (hfm _ _ (by unfold CQ; omega)).trans ((hMI j hj).trans (set_same.1 _ _ (by omega) (by omega)).symm)) hctB (TXS_set htB) (STS_set hsB) (rn3_set hg2.r3 (fun e => absurd e (by omega))) hCb hX) (by omega) mi_X11_playOut lk_X11_200 rfl (Nat.le_of_ble_eq_true rfl) rfl rfl dX11_quicksBy_43 ?_
      intro v11 μ12 h13
      obtain ⟨rfl, Mb, Lb, rfl, b1, b2, b3, b4, b5, b6⟩ := h13
      refine JJ_r1 ?_
      refine JJ_iload_n dX11_quicksBy_46 rfl rfl ?_
      refine JJ_icmp_ne (tgt := 59) dX11_quicksBy_47 (by decide) (fun c14 => ?_) (fun c14 => ?_)
      · skip
        refine JJ_iinc (v := nI (v + 1)) (lv' := [(5, .int (nI (v + 1))), (4, .int (zbits (fun v => sr_wins (z_fin (zSet A q (nI v)) k) = who) v)), (0, .ref x), (1, .ref (x + 67 + 2 * k)), (2, .int (nI q)), (3, .int who)]) dX11_quicksBy_59 rfl (nI_add (v) 1) (by decide) rfl ?_
        refine JJ_goto (tgt := 6) dX11_quicksBy_62 (by decide) ?_
        refine JJ.pick [0, 1, 2, 3, 4, 5] rfl ?_
        have hih := ih (v + 1) Mb Lb Pa (by omega) (fun b k z => (b6 b k (fun e => z (by unfold PQ CD at e; unfold CQ; omega))).trans ((hfm b k z).trans (hMx b k z))) (fun b k z => (hfp b k z).trans (hPx b k z))
        rw [zb_0 (f := (fun v => sr_wins (z_fin (zSet A q (nI v)) k) = who)) c14] at hih
        exact hih
      · skip
        refine JJ_iload dX11_quicksBy_50 rfl ?_
        refine JJ_iconst (v := 1) dX11_quicksBy_52 rfl ?_
        refine JJ_iload dX11_quicksBy_53 rfl ?_
        refine JJ_ishl dX11_quicksBy_55 ?_
        refine JJ_ior dX11_quicksBy_56 ?_
        refine JJ_istore (lv' := [(4, .int ((zbits (fun v => sr_wins (z_fin (zSet A q (nI v)) k) = who) v) ||| (1 <<< ((nI v) &&& 31)))), (5, .int (nI v)), (0, .ref x), (1, .ref (x + 67 + 2 * k)), (2, .int (nI q)), (3, .int who)]) dX11_quicksBy_57 (by decide) rfl ?_
        refine JJ_iinc (v := nI (v + 1)) (lv' := [(5, .int (nI (v + 1))), (4, .int ((zbits (fun v => sr_wins (z_fin (zSet A q (nI v)) k) = who) v) ||| (1 <<< ((nI v) &&& 31)))), (0, .ref x), (1, .ref (x + 67 + 2 * k)), (2, .int (nI q)), (3, .int who)]) dX11_quicksBy_59 rfl (nI_add (v) 1) (by decide) rfl ?_
        refine JJ_goto (tgt := 6) dX11_quicksBy_62 (by decide) ?_
        refine JJ.pick [0, 1, 2, 3, 4, 5] rfl ?_
        have hih := ih (v + 1) Mb Lb Pa (by omega) (fun b k z => (b6 b k (fun e => z (by unfold PQ CD at e; unfold CQ; omega))).trans ((hfm b k z).trans (hMx b k z))) (fun b k z => (hfp b k z).trans (hPx b k z))
        rw [zbits_1 (f := (fun v => sr_wins (z_fin (zSet A q (nI v)) k) = who)) c14] at hih
        exact hih
  refine JJ.pick [0, 1, 2, 3, 4, 5] rfl ?_
  exact key 10 0 M L P (by omega) (fun _ _ _ => rfl) (fun _ _ _ => rfl)
set_option maxHeartbeats 4000000 in
set_option maxRecDepth 100000 in
theorem kc_rulesBy {k N : Nat} {who : Int32} (hk : k < 4) (h16 : ¬ A.1 16 k = 0) (hr : RWY A k N) (hA : cABS x n S P M A) (hg2 : RNG2 A) (hC : CWF x S P) (hX : HSC x sc) : KK G sc yX11_rulesBy cX11_rulesBy 5 (some .int) 9 0 0 [.ref x, .ref (x + 67 + 2 * k), .int who] (n, S, M, L, P) (QP x n S M P (zbits (fun v => sr_wins (z_fin (zSet A 2 (nI v)) k) = who) (i2n (A.1 10 0)))) := by
  have hg : RNG A := hg2.1
  have hrl := (rul_lt hg).1
  obtain ⟨cn, hc6, hcA, hcZ⟩ := cnt_e hg
  have h6 := (rul_lt hg).2
  have hct := hA.1
  have hrt := hct.rt hg hA.2.2.1
  have hst := hA.2.2.2.1
  have hC0 : CRT0 x (x + 43) := ⟨1, by decide, by omega⟩
  obtain ⟨tc, htc⟩ : ∃ tc, tc = i2n (A.1 10 0) := ⟨_, rfl⟩
  have htn : A.1 10 0 = nI tc := by rw [htc]; exact (tc_n hg).symm
  rw [← htc] at h6 ⊢
  have h6 : i2n (A.1 10 0) ≤ 6 := by rw [← htc]; exact h6
  have h6t : tc ≤ 6 := by omega
  refine KK_of2 [(0, .ref x), (1, .ref (x + 67 + 2 * k)), (2, .int who)] (by decide +kernel) (Nat.le_of_ble_eq_true rfl) rfl ?_
  refine JJ_iconst (v := 0) dX11_rulesBy_0 rfl ?_
  refine JJ_istore_n (lv' := [(3, .int 0), (0, .ref x), (1, .ref (x + 67 + 2 * k)), (2, .int who)]) dX11_rulesBy_1 rfl (by decide) rfl ?_
  refine JJ_iconst (v := 0) dX11_rulesBy_2 rfl ?_
  refine JJ_istore (lv' := [(4, .int 0), (3, .int 0), (0, .ref x), (1, .ref (x + 67 + 2 * k)), (2, .int who)]) dX11_rulesBy_3 (by decide) rfl ?_
  have key : ∀ (d v : Nat) (Mx : Nat → Nat → Int32) (Lx : Nat → Nat → Int64) (Px : Nat → Nat → Option Nat), v + d = tc → (∀ b k, ¬ CQ x b k → Mx b k = M b k) → (∀ b k, ¬ CQP x b k → Px b k = P b k) → JJ G sc yX11_rulesBy cX11_rulesBy 5 (some .int) 9 0 0 (QP x n S M P (zbits (fun v => sr_wins (z_fin (zSet A 2 (nI v)) k) = who) tc)) 5 [(4, .int (nI v)), (3, .int (zbits (fun v => sr_wins (z_fin (zSet A 2 (nI v)) k) = who) v)), (0, .ref x), (1, .ref (x + 67 + 2 * k)), (2, .int who)] [] (n, S, Mx, Lx, Px) := by
    intro d
    induction d with
    | zero =>
      intro v Mx Lx Px hvd hMx hPx
      have hCx : CWF x S Px := hC.keep (fun b k _ _ z => hPx b k z)
      have hAx : cABS x n S Px Mx A := hA.keep h6 (fun b k _ _ z => hMx b k z) (fun b k _ _ z => hPx b k z) (fun _ _ => trivial)
      have hvK : v = tc := by omega
      refine JJ_iload dX11_rulesBy_5 rfl ?_
      refine JJ_aload_n dX11_rulesBy_7 rfl rfl ?_
      refine JJ_geti (v := nI tc) (cis := [11]) (k := 2) fa_X11_22 (by decide) (congrArg Prod.fst (hC.sh (t := 0) (k := 12) (m := 0) (by decide))) rfl (hX.1 _ _ (by omega) (by omega) (by omega)) (hAx.2.1.trans htn) dX11_rulesBy_8 ?_
      refine JJ_icmp_ge (tgt := 75) dX11_rulesBy_11 (by decide) (fun _ => ?_) (fun c1 => absurd (nI_le (by omega) (by omega)) c1)
      refine JJ_iload_n dX11_rulesBy_75 rfl rfl ?_
      refine JJ_iret dX11_rulesBy_76 rfl ?_
      exact ⟨by rw [hvK], Mx, Lx, Px, rfl, hMx, hPx⟩
    | succ d ih =>
      intro v Mx Lx Px hvd hMx hPx
      have hCx : CWF x S Px := hC.keep (fun b k _ _ z => hPx b k z)
      have hAx : cABS x n S Px Mx A := hA.keep h6 (fun b k _ _ z => hMx b k z) (fun b k _ _ z => hPx b k z) (fun _ _ => trivial)
      obtain ⟨⟨N2, hN4, eN, hMN, hMI⟩, -, -⟩ := sh_there hk hg2 hAx.2.2.2.2.1 h16
      have hNN : N2 = N := nI_inj (by omega) (by have := hr.2.1; omega) (eN.symm.trans hr.1)
      subst hNN
      refine JJ_iload dX11_rulesBy_5 rfl ?_
      refine JJ_aload_n dX11_rulesBy_7 rfl rfl ?_
      refine JJ_geti (v := nI tc) (cis := [11]) (k := 2) fa_X11_22 (by decide) (congrArg Prod.fst (hC.sh (t := 0) (k := 12) (m := 0) (by decide))) rfl (hX.1 _ _ (by omega) (by omega) (by omega)) (hAx.2.1.trans htn) dX11_rulesBy_8 ?_
      refine JJ_icmp_ge (tgt := 75) dX11_rulesBy_11 (by decide) (fun c2 => absurd c2 (nI_ge (by omega) (by omega))) (fun _ => ?_)
      refine JJ_iload dX11_rulesBy_14 rfl ?_
      refine JJ_aload_n dX11_rulesBy_16 rfl rfl ?_
      refine JJ_getr (q := x + 1) (cis := [11]) (k := 0) fa_X11_11 (by decide) (congrArg Prod.fst (hC.sh (t := 0) (k := 12) (m := 0) (by decide))) rfl (hCx.rf (t := 0) (s := 0) (u := 1) (by decide)) dX11_rulesBy_17 ?_
      refine JJ_alen (t := 2) (hC.sh (t := 1) (k := 22) (m := 6) (by decide)) (by decide) dX11_rulesBy_20 ?_
      refine JJ_icmp_ge (tgt := 75) dX11_rulesBy_21 (by decide) (fun c3 => absurd c3 (nI_ge (b := 6) (by omega) (by omega))) (fun _ => ?_)
      refine JJ_aload_n dX11_rulesBy_24 rfl rfl ?_
      refine JJ_getr (q := x + 43) (cis := [11]) (k := 6) fa_X11_101 (by decide) (congrArg Prod.fst (hC.sh (t := 0) (k := 12) (m := 0) (by decide))) rfl (hCx.rf (t := 0) (s := 6) (u := 43) (by decide)) dX11_rulesBy_25 ?_
      refine JJ_aload_n dX11_rulesBy_28 rfl rfl ?_
      refine JJ_getr (q := x + 40) (cis := [11]) (k := 5) fa_X11_97 (by decide) (congrArg Prod.fst (hC.sh (t := 0) (k := 12) (m := 0) (by decide))) rfl (hCx.rf (t := 0) (s := 5) (u := 40) (by decide)) dX11_rulesBy_29 ?_
      refine JJ_callV (rest := []) (congrArg Prod.fst (hC.2.2.2.1 1 (by decide)).1) rfl rfl (kc_take (c := x + 43) (e := x + 40) (by omega) hC0 hAx.1.1 hAx.1.2.2.2 hCx hX) (by omega) mi_X1_take lk_X11_245 rfl (Nat.le_of_ble_eq_true rfl) rfl rfl dX11_rulesBy_32 ?_
      intro v4 μ5 h6
      obtain ⟨rfl, Ma, Pa, rfl, htk1, htk2, htk3, htk4⟩ := h6
      refine JJ_r0 ?_
      have hPa : ∀ b k, ¬ CQP x b k → Pa b k = Px b k := fun b k z => rd_n htk4 (fun e => z (by unfold CQP; omega)) rfl
      have hMa : ∀ b k, ¬ CQ x b k → Ma b k = Mx b k := fun b k z => htk3 b k (by unfold CQ at z; omega)
      have hctA : CTA x (x + 43) Pa Ma A := CTA_take hAx.1 hC0 htk1 htk2 htk4
      have hCa : CWF x S Pa := hCx.keep (fun b k _ _ z => hPa b k z)
      have hAa : cABS x n S Pa Ma A := hAx.keep h6 (fun b k _ _ z => hMa b k z) (fun b k _ _ z => hPa b k z) (fun _ _ => trivial)
      refine JJ_aload_n dX11_rulesBy_35 rfl rfl ?_
      refine JJ_getr (q := x + 43) (cis := [11]) (k := 6) fa_X11_101 (by decide) (congrArg Prod.fst (hC.sh (t := 0) (k := 12) (m := 0) (by decide))) rfl (hCa.rf (t := 0) (s := 6) (u := 43) (by decide)) dX11_rulesBy_36 ?_
      refine JJ_aload_n dX11_rulesBy_39 rfl rfl ?_
      refine JJ_getr (q := x + 1) (cis := [11]) (k := 0) fa_X11_11 (by decide) (congrArg Prod.fst (hC.sh (t := 0) (k := 12) (m := 0) (by decide))) rfl (hCa.rf (t := 0) (s := 0) (u := 1) (by decide)) dX11_rulesBy_40 ?_
      refine JJ_iload dX11_rulesBy_43 rfl ?_
      refine JJ_aaldX (t := 0) (q := x + 10 + 5 * v) (hC.sh (t := 1) (k := 22) (m := 6) (by decide)) (by decide) (IX_nI (by omega) (by omega)) (hCa.txt (by omega)) dX11_rulesBy_45 ?_
      refine JJ_putr (ty := .object "MiddleOfCourt$Text") (cis := [1]) (k := 3) fa_X11_173 (by decide) (congrArg Prod.fst (hC.2.2.2.1 1 (by decide)).1) rfl (fun r hr => by cases hr; exact ⟨rfl, by decide +kernel⟩) rfl rfl dX11_rulesBy_46 (fun P7 hP8 => ?_)
      have hCr : CWF x S P7 := hCa.keep (fun b k _ _ z => rd_n hP8 (fun e => z (by unfold CQP; omega)) rfl)
      refine JJ_aload_n dX11_rulesBy_49 rfl rfl ?_
      refine JJ_aload_n dX11_rulesBy_50 rfl rfl ?_
      refine JJ_getr (q := x + 43) (cis := [11]) (k := 6) fa_X11_101 (by decide) (congrArg Prod.fst (hC.sh (t := 0) (k := 12) (m := 0) (by decide))) rfl (hCr.rf (t := 0) (s := 6) (u := 43) (by decide)) dX11_rulesBy_51 ?_
      refine JJ_aload_n dX11_rulesBy_54 rfl rfl ?_
      have hctB := CTA_r hctA (by omega) hP8
      have hfm : ∀ b k, ¬ CQ x b k → Ma b k = Mx b k := hMa
      have hfp : ∀ b k, ¬ CQP x b k → P7 b k = Px b k := fun b k z => rd_n hP8 (fun e => z (by unfold CQP; omega)) (hPa b k z)
      have hCb : CWF x S P7 := hCx.keep (fun b k _ _ z => hfp b k z)
      have htB : TXS x Ma A := hAx.2.2.1.keep (fun b k z1 z2 => hfm b k (by unfold CQ; omega)) h6
      have hsB : STS x n S P7 Ma A := hAx.2.2.2.1.keep (hfm _ _ (by unfold CQ; omega)) (fun b k z => hfm b k (by unfold CQ; omega)) (fun k => hfp _ _ (by unfold CQP; omega))
      refine JJ_callV (rest := []) (congrArg Prod.fst (hC.sh (t := 0) (k := 12) (m := 0) (by decide))) rfl rfl (kc_playOut (c := x + 43) hk (RWY_set hr) ((hfm _ _ (by unfold CQ; omega)).trans hMN) (fun j hj => (hfm _ _ (by unfold CQ; omega)).trans ((hMI j hj).trans (set_same.1 _ _ (by omega) (by omega)).symm)) hctB (TXS_set htB) (STS_set hsB) (rn3_set hg2.r3 (fun _ => ⟨v, by omega, rfl⟩)) hCb hX) (by omega) mi_X11_playOut lk_X11_200 rfl (Nat.le_of_ble_eq_true rfl) rfl rfl dX11_rulesBy_55 ?_
      intro v9 μ10 h11
      obtain ⟨rfl, Mb, Lb, rfl, b1, b2, b3, b4, b5, b6⟩ := h11
      refine JJ_r1 ?_
      refine JJ_iload_n dX11_rulesBy_58 rfl rfl ?_
      refine JJ_icmp_ne (tgt := 69) dX11_rulesBy_59 (by decide) (fun c12 => ?_) (fun c12 => ?_)
      · skip
        refine JJ_iinc (v := nI (v + 1)) (lv' := [(4, .int (nI (v + 1))), (3, .int (zbits (fun v => sr_wins (z_fin (zSet A 2 (nI v)) k) = who) v)), (0, .ref x), (1, .ref (x + 67 + 2 * k)), (2, .int who)]) dX11_rulesBy_69 rfl (nI_add (v) 1) (by decide) rfl ?_
        refine JJ_goto (tgt := 5) dX11_rulesBy_72 (by decide) ?_
        refine JJ.pick [0, 1, 2, 3, 4] rfl ?_
        have hih := ih (v + 1) Mb Lb P7 (by omega) (fun b k z => (b6 b k (fun e => z (by unfold PQ CD at e; unfold CQ; omega))).trans ((hfm b k z).trans (hMx b k z))) (fun b k z => (hfp b k z).trans (hPx b k z))
        rw [zb_0 (f := (fun v => sr_wins (z_fin (zSet A 2 (nI v)) k) = who)) c12] at hih
        exact hih
      · skip
        refine JJ_iload_n dX11_rulesBy_62 rfl rfl ?_
        refine JJ_iconst (v := 1) dX11_rulesBy_63 rfl ?_
        refine JJ_iload dX11_rulesBy_64 rfl ?_
        refine JJ_ishl dX11_rulesBy_66 ?_
        refine JJ_ior dX11_rulesBy_67 ?_
        refine JJ_istore_n (lv' := [(3, .int ((zbits (fun v => sr_wins (z_fin (zSet A 2 (nI v)) k) = who) v) ||| (1 <<< ((nI v) &&& 31)))), (4, .int (nI v)), (0, .ref x), (1, .ref (x + 67 + 2 * k)), (2, .int who)]) dX11_rulesBy_68 rfl (by decide) rfl ?_
        refine JJ_iinc (v := nI (v + 1)) (lv' := [(4, .int (nI (v + 1))), (3, .int ((zbits (fun v => sr_wins (z_fin (zSet A 2 (nI v)) k) = who) v) ||| (1 <<< ((nI v) &&& 31)))), (0, .ref x), (1, .ref (x + 67 + 2 * k)), (2, .int who)]) dX11_rulesBy_69 rfl (nI_add (v) 1) (by decide) rfl ?_
        refine JJ_goto (tgt := 5) dX11_rulesBy_72 (by decide) ?_
        refine JJ.pick [0, 1, 2, 3, 4] rfl ?_
        have hih := ih (v + 1) Mb Lb P7 (by omega) (fun b k z => (b6 b k (fun e => z (by unfold PQ CD at e; unfold CQ; omega))).trans ((hfm b k z).trans (hMx b k z))) (fun b k z => (hfp b k z).trans (hPx b k z))
        rw [zbits_1 (f := (fun v => sr_wins (z_fin (zSet A 2 (nI v)) k) = who)) c12] at hih
        exact hih
  refine JJ.pick [0, 1, 2, 3, 4] rfl ?_
  exact key tc 0 M L P (by omega) (fun _ _ _ => rfl) (fun _ _ _ => rfl)
set_option maxHeartbeats 4000000 in
set_option maxRecDepth 100000 in
theorem kc_quicks {s what who : Int32} (hA : cABS x n S P M A) (hg2 : RNG2 A) (hC : CWF x S P) (hX : HSC x sc) : KK G sc yX11_quicks cX11_quicks 6 (some .int) 10 0 0 [.ref x, .int s, .int what, .int who] (n, S, M, L, P) (cI x n S M P (.int (zr_quicks A s what who)) A) := by
  have hg : RNG A := hg2.1
  have hrl := (rul_lt hg).1
  obtain ⟨cn, hc6, hcA, hcZ⟩ := cnt_e hg
  have h6 := (rul_lt hg).2
  have hct := hA.1
  have hrt := hct.rt hg hA.2.2.1
  have hst := hA.2.2.2.1
  have z0 : (0 : Int32).toInt = 0 := rfl
  have zm : (-1 : Int32).toInt = -1 := rfl
  have z2 : (2 : Int32).toInt = 2 := rfl
  have z1 : (1 : Int32).toInt = 1 := rfl
  by_cases hk1 : (0 ≤ what.toInt ∧ what.toInt ≤ 2) ∧ (-1 ≤ who.toInt ∧ who.toInt ≤ 1)
  · skip
    obtain ⟨hw, ho⟩ := hk1
    obtain ⟨q, hq2, rfl⟩ := n_of (m := 2) (by decide) hw
    refine KK_of2 [(0, .ref x), (1, .int s), (2, .int (nI q)), (3, .int who)] (by decide +kernel) (Nat.le_of_ble_eq_true rfl) rfl ?_
    refine JJ_iload_n dX11_quicks_0 rfl rfl ?_
    refine JJ_if_lt (tgt := 19) dX11_quicks_1 (by decide) (fun c1 => absurd c1 (fun y => by rw [i_lt] at y; omega)) (fun _ => ?_)
    refine JJ_iload_n dX11_quicks_4 rfl rfl ?_
    refine JJ_iconst (v := 2) dX11_quicks_5 rfl ?_
    refine JJ_icmp_gt (tgt := 19) dX11_quicks_6 (by decide) (fun c2 => absurd c2 (fun y => by rw [i_lt] at y; omega)) (fun _ => ?_)
    refine JJ_iload_n dX11_quicks_9 rfl rfl ?_
    refine JJ_iconst (v := (-1)) dX11_quicks_10 rfl ?_
    refine JJ_icmp_lt (tgt := 19) dX11_quicks_11 (by decide) (fun c3 => absurd c3 (fun y => by rw [i_lt] at y; omega)) (fun _ => ?_)
    refine JJ_iload_n dX11_quicks_14 rfl rfl ?_
    refine JJ_iconst (v := 1) dX11_quicks_15 rfl ?_
    refine JJ_icmp_le (tgt := 22) dX11_quicks_16 (by decide) (fun _ => ?_) (fun c4 => absurd (i_le.mpr (by omega)) c4)
    refine JJ_aload_n dX11_quicks_22 rfl rfl ?_
    refine JJ_iload_n dX11_quicks_23 rfl rfl ?_
    refine JJ_callV (rest := []) (congrArg Prod.fst (hC.sh (t := 0) (k := 12) (m := 0) (by decide))) rfl rfl (kc_refusal hA hg2 hC hX) (by omega) mi_X11_refusalOfRally lk_X11_180 rfl (Nat.le_of_ble_eq_true rfl) rfl rfl dX11_quicks_24 ?_
    intro v5 μ6 h7
    obtain ⟨rfl, rfl⟩ := h7
    refine JJ_r1 ?_
    refine JJ_istore (lv' := [(4, .int (z_rb A s)), (0, .ref x), (1, .int s), (2, .int (nI q)), (3, .int who)]) dX11_quicks_27 (by decide) rfl ?_
    refine JJ_iload dX11_quicks_29 rfl ?_
    refine JJ_if_eq (tgt := 37) dX11_quicks_31 (by decide) (fun c8 => ?_) (fun c8 => ?_)
    · skip
      have hrb := c8
      obtain ⟨k, N, hk, rfl, h16, hr⟩ := rb_rwy hg2 hrb
      have hik : i2n (nI k) = k := nI_clamp (by omega)
      have hiq : i2n (nI q) = q := nI_clamp (by omega)
      have e0 : zr_quicks A (nI k) (nI q) who = zbits (fun v => sr_wins (z_fin (zSet A q (nI v)) k) = who) (if nI q = 2 then i2n (A.1 10 0) else 10) := (if_neg (fun z => z ⟨isSh_n hk, hw, ho⟩)).trans ((if_pos hrb).trans (by rw [hik, hiq]))
      rw [e0]
      refine JJ_aload_n dX11_quicks_37 rfl rfl ?_
      refine JJ_iload_n dX11_quicks_38 rfl rfl ?_
      refine JJ_callV (rest := []) (congrArg Prod.fst (hC.sh (t := 0) (k := 12) (m := 0) (by decide))) rfl rfl (kc_sheetAt hk hC hX) (by omega) mi_X11_sheetAt lk_X11_196 rfl (Nat.le_of_ble_eq_true rfl) rfl rfl dX11_quicks_39 ?_
      intro v9 μ10 h11
      obtain ⟨rfl, rfl⟩ := h11
      refine JJ_r1 ?_
      refine JJ_astore (lv' := [(5, .ref (x + 67 + 2 * k)), (4, .int (z_rb A (nI k))), (0, .ref x), (1, .int (nI k)), (2, .int (nI q)), (3, .int who)]) dX11_quicks_42 (by decide) rfl ?_
      refine JJ_iload_n dX11_quicks_44 rfl rfl ?_
      refine JJ_iconst (v := 2) dX11_quicks_45 rfl ?_
      refine JJ_icmp_ne (tgt := 59) dX11_quicks_46 (by decide) (fun c12 => ?_) (fun c12 => ?_)
      · skip
        refine JJ_aload_n dX11_quicks_59 rfl rfl ?_
        refine JJ_aload dX11_quicks_60 rfl ?_
        refine JJ_iload_n dX11_quicks_62 rfl rfl ?_
        refine JJ_iload_n dX11_quicks_63 rfl rfl ?_
        have hqs : q < 2 := by
          rcases (by omega : q < 2 ∨ q = 2) with y | rfl
          · exact y
          · exact absurd rfl c12
        refine JJ_callV (rest := []) (congrArg Prod.fst (hC.sh (t := 0) (k := 12) (m := 0) (by decide))) rfl rfl (kc_quicksBy hqs hk h16 hr hA hg2 hC hX) (by omega) mi_X11_quicksBy lk_X11_234 rfl (Nat.le_of_ble_eq_true rfl) rfl rfl dX11_quicks_64 ?_
        intro v13 μ14 h15
        obtain ⟨rfl, Mb, Lb, Pb, rfl, b6, b7⟩ := h15
        refine JJ_r1 ?_
        refine JJ_iret dX11_quicks_67 rfl ?_
        exact cI_v (by rw [if_neg c12]) hA h6 hC b6 b7 (fun _ _ => trivial)
      · skip
        refine JJ_aload_n dX11_quicks_49 rfl rfl ?_
        refine JJ_aload dX11_quicks_50 rfl ?_
        refine JJ_iload_n dX11_quicks_52 rfl rfl ?_
        have hqs : q = 2 := nI_inj (b := 2) (by omega) (by omega) c12
        subst hqs
        refine JJ_callV (rest := []) (congrArg Prod.fst (hC.sh (t := 0) (k := 12) (m := 0) (by decide))) rfl rfl (kc_rulesBy hk h16 hr hA hg2 hC hX) (by omega) mi_X11_rulesBy lk_X11_230 rfl (Nat.le_of_ble_eq_true rfl) rfl rfl dX11_quicks_53 ?_
        intro v16 μ17 h18
        obtain ⟨rfl, Mb, Lb, Pb, rfl, b6, b7⟩ := h18
        refine JJ_r1 ?_
        refine JJ_goto (tgt := 67) dX11_quicks_56 (by decide) ?_
        refine JJ_iret dX11_quicks_67 rfl ?_
        exact cI_v (by rw [if_pos c12]) hA h6 hC b6 b7 (fun _ _ => trivial)
    · skip
      refine JJ_iload dX11_quicks_34 rfl ?_
      refine JJ_iret dX11_quicks_36 rfl ?_
      have e0 : zr_quicks A s (nI q) who = z_rb A s := by
        by_cases hs1 : isSh s
        · exact (if_neg (fun z => z ⟨hs1, hw, ho⟩)).trans (if_neg c8)
        · exact (if_pos (fun z => hs1 z.1)).trans (by rw [show z_rb A s = -2 from rb_1 hs1])
      rw [e0]
      exact cI_q rfl hA hC
  · skip
    have e0 : zr_quicks A s what who = -2 := if_pos (fun z => hk1 z.2)
    rw [e0]
    refine KK_of2 [(0, .ref x), (1, .int s), (2, .int what), (3, .int who)] (by decide +kernel) (Nat.le_of_ble_eq_true rfl) rfl ?_
    refine JJ_iload_n dX11_quicks_0 rfl rfl ?_
    refine JJ_if_lt (tgt := 19) dX11_quicks_1 (by decide) (fun c19 => ?_) (fun c19 => ?_)
    · skip
      refine JJ_bipush (v := (-2)) dX11_quicks_19 rfl ?_
      refine JJ_iret dX11_quicks_21 rfl ?_
      exact cI_q rfl hA hC
    · skip
      refine JJ_iload_n dX11_quicks_4 rfl rfl ?_
      refine JJ_iconst (v := 2) dX11_quicks_5 rfl ?_
      refine JJ_icmp_gt (tgt := 19) dX11_quicks_6 (by decide) (fun c20 => ?_) (fun c20 => ?_)
      · skip
        refine JJ_bipush (v := (-2)) dX11_quicks_19 rfl ?_
        refine JJ_iret dX11_quicks_21 rfl ?_
        exact cI_q rfl hA hC
      · skip
        refine JJ_iload_n dX11_quicks_9 rfl rfl ?_
        refine JJ_iconst (v := (-1)) dX11_quicks_10 rfl ?_
        refine JJ_icmp_lt (tgt := 19) dX11_quicks_11 (by decide) (fun c21 => ?_) (fun c21 => ?_)
        · skip
          refine JJ_bipush (v := (-2)) dX11_quicks_19 rfl ?_
          refine JJ_iret dX11_quicks_21 rfl ?_
          exact cI_q rfl hA hC
        · skip
          refine JJ_iload_n dX11_quicks_14 rfl rfl ?_
          refine JJ_iconst (v := 1) dX11_quicks_15 rfl ?_
          refine JJ_icmp_le (tgt := 22) dX11_quicks_16 (by decide) (fun c22 => absurd c22 (fun y => hk1 ⟨by have y1 := c19; have y2 := c20; rw [i_lt] at y1 y2; omega, by have y3 := c21; rw [i_lt] at y3; rw [i_le] at y; omega⟩)) (fun _ => ?_)
          refine JJ_bipush (v := (-2)) dX11_quicks_19 rfl ?_
          refine JJ_iret dX11_quicks_21 rfl ?_
          exact cI_q rfl hA hC
end C22
