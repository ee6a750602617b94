section C21
variable {G : Gx} {sc : Nat → Nat → Prop} {n : Nat} {S : Nat → Nat × Nat} {M : Nat → Nat → Int32} {L : Nat → Nat → Int64} {P : Nat → Nat → Option Nat} {x : Nat} {A B : Abs}

theorem zdr_1 {d k : Nat} {z : Int32} (h : zw B (s_rnd (s_next z) % zcnt B) (k % 2)) : zdr (d + 1) B k z = nI (k % 2) := if_pos h
theorem zdr_0 {d k : Nat} {z : Int32} (h : ¬ zw B (s_rnd (s_next z) % zcnt B) (k % 2)) : zdr (d + 1) B k z = zdr d (zPut B (za B (s_rnd (s_next z) % zcnt B) (k % 2))) (k + 1) (s_next z) := if_neg h
theorem TXS_put {κ : Crt} (h : TXS x M B) : TXS x M (zPut B κ) := ⟨fun i hi => h.1 i (by rw [← zPut_o (A := B) (κ := κ) (b := 10) (k := 0) (by decide)]; exact hi), h.2⟩
abbrev QP (x n : Nat) (S : Nat → Nat × Nat) (M : Nat → Nat → Int32) (P : Nat → Nat → Option Nat) (r : Int32) : Option Value → Mem → Prop := fun v μ => v = some (.int r) ∧ ∃ M' L' P', μ = (n, S, M', L', P') ∧ (∀ b k, ¬ CQ x b k → M' b k = M b k) ∧ ∀ b k, ¬ CQP x b k → P' b k = P b k
set_option maxHeartbeats 4000000 in
set_option maxRecDepth 100000 in
theorem kc_drawnQ {seed : Int32} (hA : cABS x n S P M A) (hg2 : RNG2 A) (hC : CWF x S P) (hX : HSC x sc) : KK G sc yX11_drawn cX11_drawn 6 (some .int) 7 0 0 [.ref x, .int seed] (n, S, M, L, P) (QP x n S M P (zr_drawn A seed)) := by
  have hg : RNG A := hg2.1
  have hrl := (rul_lt hg).1
  obtain ⟨cn, hc6, hcA, hcZ⟩ := cnt_e hg
  have h6 := (rul_lt hg).2
  have hct := hA.1
  have hrt := hct.rt hg hA.2.2.1
  have hst := hA.2.2.2.1
  have hC0 : CRT0 x (x + 43) := ⟨1, by decide, by omega⟩
  by_cases hc0 : cn = 0
  · skip
    subst hc0
    have e0 : zr_drawn A seed = -1 := if_pos (by rw [hcA]; rfl)
    rw [e0]
    refine KK_of2 [(0, .ref x), (1, .int seed)] (by decide +kernel) (Nat.le_of_ble_eq_true rfl) rfl ?_
    refine JJ_aload_n dX11_drawn_0 rfl rfl ?_
    refine JJ_geti (v := nI 0) (cis := [11]) (k := 4) fa_X11_32 (by decide) (congrArg Prod.fst (hC.sh (t := 0) (k := 12) (m := 0) (by decide))) rfl (hX.1 _ _ (by omega) (by omega) (by omega)) (hst.1.trans hcA) dX11_drawn_1 ?_
    refine JJ_if_gt (tgt := 9) dX11_drawn_4 (by decide) (fun c1 => absurd c1 (by decide)) (fun _ => ?_)
    refine JJ_iconst (v := (-1)) dX11_drawn_7 rfl ?_
    refine JJ_iret dX11_drawn_8 rfl ?_
    exact ⟨rfl, M, L, P, rfl, fun _ _ _ => rfl, fun _ _ _ => rfl⟩
  · skip
    have e0 : zr_drawn A seed = zdr 40 A 0 seed := if_neg (by rw [hcA]; exact nI_ne0 (by omega) (by omega))
    rw [e0]
    refine KK_of2 [(0, .ref x), (1, .int seed)] (by decide +kernel) (Nat.le_of_ble_eq_true rfl) rfl ?_
    refine JJ_aload_n dX11_drawn_0 rfl rfl ?_
    refine JJ_geti (v := nI cn) (cis := [11]) (k := 4) fa_X11_32 (by decide) (congrArg Prod.fst (hC.sh (t := 0) (k := 12) (m := 0) (by decide))) rfl (hX.1 _ _ (by omega) (by omega) (by omega)) (hst.1.trans hcA) dX11_drawn_1 ?_
    refine JJ_if_gt (tgt := 9) dX11_drawn_4 (by decide) (fun _ => ?_) (fun c2 => absurd (nI_lt1 (k := 0) (by omega) (by omega)) c2)
    refine JJ_aload_n dX11_drawn_9 rfl rfl ?_
    refine JJ_getr (q := x + 43) (cis := [11]) (k := 6) fa_X11_101 (by decide) (congrArg Prod.fst (hC.sh (t := 0) (k := 12) (m := 0) (by decide))) rfl (hC.rf (t := 0) (s := 6) (u := 43) (by decide)) dX11_drawn_10 ?_
    refine JJ_aload_n dX11_drawn_13 rfl rfl ?_
    refine JJ_getr (q := x + 40) (cis := [11]) (k := 5) fa_X11_97 (by decide) (congrArg Prod.fst (hC.sh (t := 0) (k := 12) (m := 0) (by decide))) rfl (hC.rf (t := 0) (s := 5) (u := 40) (by decide)) dX11_drawn_14 ?_
    refine JJ_callV (rest := []) (congrArg Prod.fst (hC.2.2.2.1 1 (by decide)).1) rfl rfl (kc_take (c := x + 43) (e := x + 40) (by omega) hC0 hct.1 hct.2.2.2 hC hX) (by omega) mi_X1_take lk_X11_245 rfl (Nat.le_of_ble_eq_true rfl) rfl rfl dX11_drawn_17 ?_
    intro v3 μ4 h5
    obtain ⟨rfl, Ma, Pa, rfl, htk1, htk2, htk3, htk4⟩ := h5
    refine JJ_r0 ?_
    have hPa : ∀ b k, ¬ CQP x b k → Pa b k = P b k := fun b k z => rd_n htk4 (fun e => z (by unfold CQP; omega)) rfl
    have hMa : ∀ b k, ¬ CQ x b k → Ma b k = M b k := fun b k z => htk3 b k (by unfold CQ at z; omega)
    have hctA : CTA x (x + 43) Pa Ma A := CTA_take hct hC0 htk1 htk2 htk4
    have hCa : CWF x S Pa := hC.keep (fun b k _ _ z => hPa b k z)
    have htA : TXS x Ma A := hA.2.2.1.keep (fun b k z1 z2 => hMa b k (by unfold CQ; omega)) h6
    have hstA : STS x n S Pa Ma A := hst.keep (hMa _ _ (by unfold CQ; omega)) (fun b k z => hMa b k (by unfold CQ; omega)) (fun k => hPa _ _ (by unfold CQP; omega))
    refine JJ_iload_n dX11_drawn_20 rfl rfl ?_
    refine JJ_istore_n (lv' := [(2, .int seed), (0, .ref x), (1, .int seed)]) dX11_drawn_21 rfl (by decide) rfl ?_
    refine JJ_iconst (v := 0) dX11_drawn_22 rfl ?_
    refine JJ_istore_n (lv' := [(3, .int 0), (2, .int seed), (0, .ref x), (1, .int seed)]) dX11_drawn_23 rfl (by decide) rfl ?_
    have key : ∀ (d k : Nat) (z : Int32) (B : Abs) (Mx : Nat → Nat → Int32), k + d = 40 → zdr d B k z = zdr 40 A 0 seed → CTA x (x + 43) Pa Mx B → STS x n S Pa Mx B → TXS x Mx B → RN3 B → zcnt B = cn → B.1 8 0 = nI cn → (∀ b k, ¬ CQ x b k → Mx b k = M b k) → JJ G sc yX11_drawn cX11_drawn 6 (some .int) 7 0 0 (QP x n S M P (zdr 40 A 0 seed)) 24 [(3, .int (nI k)), (2, .int z), (0, .ref x), (1, .int seed)] [] (n, S, Mx, L, Pa) := by
      intro d
      induction d with
      | zero =>
        intro k z B Mx hkd hz hcB hsB htB hgB hzB h8B hfx
        refine JJ_iload_n dX11_drawn_24 rfl rfl ?_
        refine JJ_bipush (v := 40) dX11_drawn_25 rfl ?_
        refine JJ_icmp_ge (tgt := 87) dX11_drawn_27 (by decide) (fun _ => ?_) (fun c6 => absurd (nI_le (a := 40) (by omega) (by omega)) c6)
        refine JJ_iconst (v := (-1)) dX11_drawn_87 rfl ?_
        refine JJ_iret dX11_drawn_88 rfl ?_
        exact ⟨by rw [← hz]; rfl, Mx, L, Pa, rfl, hfx, hPa⟩
      | succ d ih =>
        intro k z B Mx hkd hz hcB hsB htB hgB hzB h8B hfx
        have hq : s_rnd (s_next z) % cn < zcnt B := by rw [hzB]; exact Nat.mod_lt _ (by omega)
        obtain ⟨a, ha, ha1, ha2, hsk⟩ := hsB.at hq
        refine JJ_iload_n dX11_drawn_24 rfl rfl ?_
        refine JJ_bipush (v := 40) dX11_drawn_25 rfl ?_
        refine JJ_icmp_ge (tgt := 87) dX11_drawn_27 (by decide) (fun c7 => absurd c7 (nI_ge (b := 40) (by omega) (by omega))) (fun _ => ?_)
        refine JJ_iload_n dX11_drawn_30 rfl rfl ?_
        refine JJ_ldc (v := 1103515245) dX11_drawn_31 tb_874 ?_
        refine JJ_imul dX11_drawn_33 ?_
        refine JJ_sipush (v := 12345) dX11_drawn_34 rfl ?_
        refine JJ_iadd dX11_drawn_37 ?_
        refine JJ_eqi (x2 := s_next z) rfl ?_
        refine JJ_istore_n (lv' := [(2, .int (s_next z)), (3, .int (nI k)), (0, .ref x), (1, .int seed)]) dX11_drawn_38 rfl (by decide) rfl ?_
        refine JJ_aload_n dX11_drawn_39 rfl rfl ?_
        refine JJ_iload_n dX11_drawn_40 rfl rfl ?_
        refine JJ_bipush (v := 9) dX11_drawn_41 rfl ?_
        refine JJ_iushr dX11_drawn_43 ?_
        refine JJ_eqi (x2 := nI (s_rnd (s_next z))) (s_rnd_e (s_next z)) ?_
        refine JJ_aload_n dX11_drawn_44 rfl rfl ?_
        refine JJ_geti (v := nI cn) (cis := [11]) (k := 4) fa_X11_32 (by decide) (congrArg Prod.fst (hC.sh (t := 0) (k := 12) (m := 0) (by decide))) rfl (hX.1 _ _ (by omega) (by omega) (by omega)) (hsB.1.trans h8B) dX11_drawn_45 ?_
        refine JJ_irem dX11_drawn_48 (nI_ne0 (by omega) (by omega)) ?_
        refine JJ_eqi (x2 := nI (s_rnd (s_next z) % cn)) (pk_rem (a := s_rnd (s_next z)) (d := cn) (by have := s_rnd_lt (s_next z); omega) (by omega) (by omega)) ?_
        refine JJ_callV (rest := []) (congrArg Prod.fst (hC.sh (t := 0) (k := 12) (m := 0) (by decide))) rfl rfl (kc_strokeAt hq ha hsB hgB.1 hCa hX) (by omega) mi_X11_strokeAt lk_X11_129 rfl (Nat.le_of_ble_eq_true rfl) rfl rfl dX11_drawn_49 ?_
        intro v8 μ9 h10
        obtain ⟨rfl, rfl⟩ := h10
        refine JJ_r1 ?_
        refine JJ_astore (lv' := [(4, .ref a), (2, .int (s_next z)), (3, .int (nI k)), (0, .ref x), (1, .int seed)]) dX11_drawn_52 (by decide) rfl ?_
        refine JJ_iload_n dX11_drawn_54 rfl rfl ?_
        refine JJ_iconst (v := 2) dX11_drawn_55 rfl ?_
        refine JJ_irem dX11_drawn_56 (by decide) ?_
        refine JJ_eqi (x2 := nI (k % 2)) (pk_rem (a := k) (d := 2) (by omega) (by decide) (by decide)) ?_
        refine JJ_istore (lv' := [(5, .int (nI (k % 2))), (4, .ref a), (2, .int (s_next z)), (3, .int (nI k)), (0, .ref x), (1, .int seed)]) dX11_drawn_57 (by decide) rfl ?_
        refine JJ_aload dX11_drawn_59 rfl ?_
        refine JJ_ifnullR dX11_drawn_61 ?_
        refine JJ_aload_n dX11_drawn_64 rfl rfl ?_
        refine JJ_getr (q := x + 43) (cis := [11]) (k := 6) fa_X11_101 (by decide) (congrArg Prod.fst (hC.sh (t := 0) (k := 12) (m := 0) (by decide))) rfl (hCa.rf (t := 0) (s := 6) (u := 43) (by decide)) dX11_drawn_65 ?_
        refine JJ_iload dX11_drawn_68 rfl ?_
        refine JJ_aload dX11_drawn_70 rfl ?_
        refine JJ_callV (rest := []) (congrArg Prod.fst (hC.2.2.2.1 1 (by decide)).1) rfl rfl (kc_strikeA (p := k % 2) (by omega) hq hsk ha1 hcB htB hgB hCa hX) (by omega) mi_X1_strike lk_X11_250 rfl (Nat.le_of_ble_eq_true rfl) rfl rfl dX11_drawn_72 ?_
        intro v11 μ12 h13
        obtain ⟨rfl, Ms, rfl, hcs, hfs⟩ := h13
        refine JJ_r1 ?_
        have hfs2 : ∀ b k, ¬ CQ x b k → Ms b k = Mx b k := fun b k z => hfs b k (fun e => z (by unfold CD at e; unfold CQ; omega))
        refine JJ_if_eq (tgt := 81) dX11_drawn_75 (by decide) (fun c14 => ?_) (fun c14 => ?_)
        · skip
          refine JJ_iinc (v := nI (k + 1)) (lv' := [(3, .int (nI (k + 1))), (5, .int (nI (k % 2))), (4, .ref a), (2, .int (s_next z)), (0, .ref x), (1, .int seed)]) dX11_drawn_81 rfl (nI_add (k) 1) (by decide) rfl ?_
          refine JJ_goto (tgt := 24) dX11_drawn_84 (by decide) ?_
          refine JJ.pick [0, 3, 4, 5] rfl ?_
          have hnz := b2_0.mp c14
          have h6B : i2n (B.1 10 0) ≤ 6 := (rul_lt hgB.1).2
          exact ih (k + 1) (s_next z) (zPut B (za B (s_rnd (s_next z) % cn) (k % 2))) Ms (by omega) ((by rw [zdr_0 (by rw [hzB]; exact hnz), hzB] : zdr (d + 1) B k z = _).symm.trans hz) hcs (STS_put (hsB.keep (hfs2 _ _ (by unfold CQ; omega)) (fun b k z => hfs2 b k (by unfold CQ; omega)) (fun k => rfl))) (TXS_put (htB.keep (fun b k z1 z2 => hfs2 b k (by unfold CQ; omega)) h6B)) (rn3_sa hgB (by omega) hq) (by rw [zPut_zcnt]; exact hzB) (by rw [zPut_o (by decide)]; exact h8B) (fun b k z => (hfs2 b k z).trans (hfx b k z))
        · skip
          refine JJ_iload dX11_drawn_78 rfl ?_
          refine JJ_iret dX11_drawn_80 rfl ?_
          exact ⟨by rw [← hz, zdr_1 (by rw [hzB]; exact b2_n.mp c14)], Ms, L, Pa, rfl, fun b k z => (hfs2 b k z).trans (hfx b k z), hPa⟩
    refine JJ.pick [0, 1, 2, 3] rfl ?_
    exact key 40 0 seed A Ma (by omega) rfl hctA hstA htA hg2.r3 hcZ hcA hMa
theorem kc_drawn {seed : Int32} (hA : cABS x n S P M A) (hg2 : RNG2 A) (hC : CWF x S P) (hX : HSC x sc) : KK G sc yX11_drawn cX11_drawn 6 (some .int) 7 0 0 [.ref x, .int seed] (n, S, M, L, P) (cI x n S M P (.int (zr_drawn A seed)) A) := by
  refine KK_mono (kc_drawnQ hA hg2 hC hX) ?_
  intro v μ ⟨hv, M', L', P', hμ, hM, hP⟩
  subst hμ
  subst hv
  exact cI_v rfl hA (rul_lt hg2.1).2 hC hM hP (fun _ _ => trivial)
theorem gcd_is {W m d : Nat} (hd : 1 ≤ d) (hm : 1 ≤ m) (hW : W % d = 0) (hmd : m % d = 0) (hmax : ∀ e, d < e → e ≤ m → ¬ (W % e = 0 ∧ m % e = 0)) : d = Nat.gcd W m := by
  have h1 : d ∣ Nat.gcd W m := Nat.dvd_gcd (Nat.dvd_of_mod_eq_zero hW) (Nat.dvd_of_mod_eq_zero hmd)
  have hp : 0 < Nat.gcd W m := Nat.gcd_pos_of_pos_right W (by omega)
  have h2 : d ≤ Nat.gcd W m := Nat.le_of_dvd hp h1
  have h3 : Nat.gcd W m ≤ m := Nat.le_of_dvd (by omega) (Nat.gcd_dvd_right W m)
  rcases Nat.lt_or_ge d (Nat.gcd W m) with h | h
  · exact absurd ⟨Nat.mod_eq_zero_of_dvd (Nat.gcd_dvd_left W m), Nat.mod_eq_zero_of_dvd (Nat.gcd_dvd_right W m)⟩ (hmax _ h h3)
  · omega
set_option maxHeartbeats 4000000 in
set_option maxRecDepth 100000 in
theorem kc_chance {seed nn part : Int32} (hA : cABS x n S P M A) (hg2 : RNG2 A) (hC : CWF x S P) (hX : HSC x sc) : KK G sc yX11_chance cX11_chance 6 (some .long) 8 0 0 [.ref x, .int seed, .int nn, .int part] (n, S, M, L, P) (cI x n S M P (.long (zr_chance A seed nn part)) A) := by
  have hg : RNG A := hg2.1
  have hrl := (rul_lt hg).1
  obtain ⟨cn, hc6, hcA, hcZ⟩ := cnt_e hg
  have h6 := (rul_lt hg).2
  have hct := hA.1
  have hrt := hct.rt hg hA.2.2.1
  have hst := hA.2.2.2.1
  have z0 : (0 : Int32).toInt = 0 := rfl
  have z1 : (1 : Int32).toInt = 1 := rfl
  have z20 : (20 : Int32).toInt = 20 := rfl
  by_cases hk : (1 ≤ nn.toInt ∧ nn.toInt ≤ 20) ∧ isPl part
  · skip
    obtain ⟨hk1, hk2⟩ := hk
    obtain ⟨m, hm20, rfl⟩ := n_of (s := nn) (m := 20) (by decide) ⟨by omega, hk1.2⟩
    have hm1 : 1 ≤ m := by have := hk1.1; rw [nI_toInt (by omega)] at this; omega
    obtain ⟨W, hW⟩ : ∃ W, W = zabove A seed m := ⟨_, rfl⟩
    have hWm : W ≤ m := by rw [hW]; exact zabove_le m
    have e0 : zr_chance A seed (nI m) part = if part = 0 then nL (W / Nat.gcd W m) else nL (m / Nat.gcd W m) := (if_neg (fun z => z ⟨hk1, hk2⟩)).trans (by rw [show i2n (nI m) = m from nI_clamp (by omega), hW])
    rw [e0]
    refine KK_of2 [(0, .ref x), (1, .int seed), (2, .int (nI m)), (3, .int part)] (by decide +kernel) (Nat.le_of_ble_eq_true rfl) rfl ?_
    refine JJ_iload_n dX11_chance_0 rfl rfl ?_
    refine JJ_iconst (v := 1) dX11_chance_1 rfl ?_
    refine JJ_icmp_lt (tgt := 20) dX11_chance_2 (by decide) (fun c1 => absurd c1 (fun y => by rw [i_lt, nI_toInt (by omega)] at y; omega)) (fun _ => ?_)
    refine JJ_iload_n dX11_chance_5 rfl rfl ?_
    refine JJ_bipush (v := 20) dX11_chance_6 rfl ?_
    refine JJ_icmp_gt (tgt := 20) dX11_chance_8 (by decide) (fun c2 => absurd c2 (fun y => by rw [i_lt, nI_toInt (by omega)] at y; omega)) (fun _ => ?_)
    refine JJ_iload_n dX11_chance_11 rfl rfl ?_
    refine JJ_if_lt (tgt := 20) dX11_chance_12 (by decide) (fun c3 => absurd c3 (fun y => by have := hk2.1; rw [i_lt] at y; omega)) (fun _ => ?_)
    refine JJ_iload_n dX11_chance_15 rfl rfl ?_
    refine JJ_iconst (v := 1) dX11_chance_16 rfl ?_
    refine JJ_icmp_le (tgt := 24) dX11_chance_17 (by decide) (fun _ => ?_) (fun c4 => absurd (i_le.mpr (by have := hk2.2; omega)) c4)
    refine JJ_iconst (v := 0) dX11_chance_24 rfl ?_
    refine JJ_istore (lv' := [(4, .int 0), (0, .ref x), (1, .int seed), (2, .int (nI m)), (3, .int part)]) dX11_chance_25 (by decide) rfl ?_
    refine JJ_iconst (v := 0) dX11_chance_27 rfl ?_
    refine JJ_istore (lv' := [(5, .int 0), (4, .int 0), (0, .ref x), (1, .int seed), (2, .int (nI m)), (3, .int part)]) dX11_chance_28 (by decide) rfl ?_
    have key : ∀ (d i : Nat) (Mx : Nat → Nat → Int32) (Lx : Nat → Nat → Int64) (Px : Nat → Nat → Option Nat), i + d = m → (∀ b k, ¬ CQ x b k → Mx b k = M b k) → (∀ b k, ¬ CQP x b k → Px b k = P b k) → JJ G sc yX11_chance cX11_chance 6 (some .long) 8 0 0 (cI x n S M P (.long (if part = 0 then nL (W / Nat.gcd W m) else nL (m / Nat.gcd W m))) A) 30 [(5, .int (nI i)), (4, .int (nI (zabove A seed i))), (0, .ref x), (1, .int seed), (2, .int (nI m)), (3, .int part)] [] (n, S, Mx, Lx, Px) := by
      intro d
      induction d with
      | zero =>
        intro i Mx Lx Px hid hMx hPx
        have hCx : CWF x S Px := hC.keep (fun b k _ _ z => hPx b k z)
        have hAx : cABS x n S Px Mx A := hA.keep h6 (fun b k _ _ z => hMx b k z) (fun b k _ _ z => hPx b k z) (fun _ _ => trivial)
        have hzl := zabove_le (A := A) (seed := seed) i
        have him : i = m := by omega
        refine JJ_iload dX11_chance_30 rfl ?_
        refine JJ_iload_n dX11_chance_32 rfl rfl ?_
        refine JJ_icmp_ge (tgt := 56) dX11_chance_33 (by decide) (fun _ => ?_) (fun c5 => absurd (nI_le (by omega) (by omega)) c5)
        have hWi : zabove A seed i = W := by rw [hW, him]
        rw [hWi]
        refine JJ_iload_n dX11_chance_56 rfl rfl ?_
        refine JJ_istore (lv' := [(5, .int (nI m)), (4, .int (nI W)), (0, .ref x), (1, .int seed), (2, .int (nI m)), (3, .int part)]) dX11_chance_57 (by decide) rfl ?_
        have key2 : ∀ (dd : Nat), dd ≤ m → 1 ≤ dd → (∀ e, dd < e → e ≤ m → ¬ (W % e = 0 ∧ m % e = 0)) → JJ G sc yX11_chance cX11_chance 6 (some .long) 8 0 0 (cI x n S M P (.long (if part = 0 then nL (W / Nat.gcd W m) else nL (m / Nat.gcd W m))) A) 59 [(5, .int (nI dd)), (4, .int (nI W)), (0, .ref x), (1, .int seed), (2, .int (nI m)), (3, .int part)] [] (n, S, Mx, Lx, Px) := by
          intro dd
          induction dd with
          | zero => intro _ h1 _; exact absurd h1 (by omega)
          | succ dd ihd =>
            intro hdm hd1 hmax
            refine JJ_iload dX11_chance_59 rfl ?_
            refine JJ_iconst (v := 1) dX11_chance_61 rfl ?_
            refine JJ_icmp_le (tgt := 86) dX11_chance_62 (by decide) (fun c6 => ?_) (fun c6 => ?_)
            · skip
              refine JJ_iload_n dX11_chance_86 rfl rfl ?_
              refine JJ_if_ne (tgt := 99) dX11_chance_87 (by decide) (fun c7 => ?_) (fun c7 => ?_)
              · skip
                refine JJ_iload_n dX11_chance_99 rfl rfl ?_
                refine JJ_iload dX11_chance_100 rfl ?_
                refine JJ_idiv dX11_chance_102 (nI_ne0 (by omega) (by omega)) ?_
                refine JJ_eqi (x2 := nI (m / (dd + 1))) (pk_div (a := m) (d := dd + 1) (by omega) (by omega) (by omega)) ?_
                refine JJ_i2l dX11_chance_103 ?_
                refine JJ_lret dX11_chance_104 rfl ?_
                have hd0 : dd = 0 := by
                  have y := c6
                  rw [i_le, nI_toInt (by omega)] at y
                  omega
                have hgc : dd + 1 = Nat.gcd W m := gcd_is (by omega) hm1 (by rw [hd0]; exact Nat.mod_one _) (by rw [hd0]; exact Nat.mod_one _) hmax
                have hdv := Nat.div_le_self m (dd + 1)
                exact cI_v (by rw [if_neg c7, ← hgc, nL_w (m / (dd + 1)) (by omega)]) hA h6 hC hMx hPx (fun _ _ => trivial)
              · skip
                refine JJ_iload dX11_chance_90 rfl ?_
                refine JJ_iload dX11_chance_92 rfl ?_
                refine JJ_idiv dX11_chance_94 (nI_ne0 (by omega) (by omega)) ?_
                refine JJ_eqi (x2 := nI (W / (dd + 1))) (pk_div (a := W) (d := dd + 1) (by omega) (by omega) (by omega)) ?_
                refine JJ_i2l dX11_chance_95 ?_
                refine JJ_goto (tgt := 104) dX11_chance_96 (by decide) ?_
                refine JJ_lret dX11_chance_104 rfl ?_
                have hd0 : dd = 0 := by
                  have y := c6
                  rw [i_le, nI_toInt (by omega)] at y
                  omega
                have hgc : dd + 1 = Nat.gcd W m := gcd_is (by omega) hm1 (by rw [hd0]; exact Nat.mod_one _) (by rw [hd0]; exact Nat.mod_one _) hmax
                have hdv := Nat.div_le_self W (dd + 1)
                exact cI_v (by rw [if_pos c7, ← hgc, nL_w (W / (dd + 1)) (by omega)]) hA h6 hC hMx hPx (fun _ _ => trivial)
            · skip
              refine JJ_iload dX11_chance_65 rfl ?_
              refine JJ_iload dX11_chance_67 rfl ?_
              refine JJ_irem dX11_chance_69 (nI_ne0 (by omega) (by omega)) ?_
              refine JJ_eqi (x2 := nI (W % (dd + 1))) (pk_rem (a := W) (d := dd + 1) (by omega) (by omega) (by omega)) ?_
              refine JJ_if_ne (tgt := 80) dX11_chance_70 (by decide) (fun c8 => ?_) (fun c8 => ?_)
              · skip
                refine JJ_iinc (v := (nI (dd + 1)) + (-1)) (lv' := [(5, .int ((nI (dd + 1)) + (-1))), (4, .int (nI W)), (0, .ref x), (1, .int seed), (2, .int (nI m)), (3, .int part)]) dX11_chance_80 rfl rfl (by decide) rfl ?_
                refine JJ_goto (tgt := 59) dX11_chance_83 (by decide) ?_
                refine JJ.pick [0, 1, 2, 3, 4, 5] rfl ?_
                rw [show nI (dd + 1) + (-1) = nI dd from nI_m1]
                have hdd : 1 ≤ dd := by
                  have y := c6
                  rw [i_le, nI_toInt (by omega)] at y
                  omega
                refine ihd (by omega) hdd (fun e h1 h2 => ?_)
                rcases (by omega : e = dd + 1 ∨ dd + 1 < e) with rfl | h3
                · exact fun z => c8 (by rw [z.1]; rfl)
                · exact hmax e h3 h2
              · skip
                refine JJ_iload_n dX11_chance_73 rfl rfl ?_
                refine JJ_iload dX11_chance_74 rfl ?_
                refine JJ_irem dX11_chance_76 (nI_ne0 (by omega) (by omega)) ?_
                refine JJ_eqi (x2 := nI (m % (dd + 1))) (pk_rem (a := m) (d := dd + 1) (by omega) (by omega) (by omega)) ?_
                refine JJ_if_eq (tgt := 86) dX11_chance_77 (by decide) (fun c9 => ?_) (fun c9 => ?_)
                · skip
                  refine JJ_iload_n dX11_chance_86 rfl rfl ?_
                  refine JJ_if_ne (tgt := 99) dX11_chance_87 (by decide) (fun c10 => ?_) (fun c10 => ?_)
                  · skip
                    refine JJ_iload_n dX11_chance_99 rfl rfl ?_
                    refine JJ_iload dX11_chance_100 rfl ?_
                    refine JJ_idiv dX11_chance_102 (nI_ne0 (by omega) (by omega)) ?_
                    refine JJ_eqi (x2 := nI (m / (dd + 1))) (pk_div (a := m) (d := dd + 1) (by omega) (by omega) (by omega)) ?_
                    refine JJ_i2l dX11_chance_103 ?_
                    refine JJ_lret dX11_chance_104 rfl ?_
                    have hgc : dd + 1 = Nat.gcd W m := gcd_is (by omega) hm1 (nI_inj (b := 0) (by have := Nat.mod_lt W (show 0 < dd + 1 by omega); omega) (by omega) c8) (nI_inj (b := 0) (by have := Nat.mod_lt m (show 0 < dd + 1 by omega); omega) (by omega) c9) hmax
                    have hdv := Nat.div_le_self m (dd + 1)
                    exact cI_v (by rw [if_neg c10, ← hgc, nL_w (m / (dd + 1)) (by omega)]) hA h6 hC hMx hPx (fun _ _ => trivial)
                  · skip
                    refine JJ_iload dX11_chance_90 rfl ?_
                    refine JJ_iload dX11_chance_92 rfl ?_
                    refine JJ_idiv dX11_chance_94 (nI_ne0 (by omega) (by omega)) ?_
                    refine JJ_eqi (x2 := nI (W / (dd + 1))) (pk_div (a := W) (d := dd + 1) (by omega) (by omega) (by omega)) ?_
                    refine JJ_i2l dX11_chance_95 ?_
                    refine JJ_goto (tgt := 104) dX11_chance_96 (by decide) ?_
                    refine JJ_lret dX11_chance_104 rfl ?_
                    have hgc : dd + 1 = Nat.gcd W m := gcd_is (by omega) hm1 (nI_inj (b := 0) (by have := Nat.mod_lt W (show 0 < dd + 1 by omega); omega) (by omega) c8) (nI_inj (b := 0) (by have := Nat.mod_lt m (show 0 < dd + 1 by omega); omega) (by omega) c9) hmax
                    have hdv := Nat.div_le_self W (dd + 1)
                    exact cI_v (by rw [if_pos c10, ← hgc, nL_w (W / (dd + 1)) (by omega)]) hA h6 hC hMx hPx (fun _ _ => trivial)
                · skip
                  refine JJ_iinc (v := (nI (dd + 1)) + (-1)) (lv' := [(5, .int ((nI (dd + 1)) + (-1))), (4, .int (nI W)), (0, .ref x), (1, .int seed), (2, .int (nI m)), (3, .int part)]) dX11_chance_80 rfl rfl (by decide) rfl ?_
                  refine JJ_goto (tgt := 59) dX11_chance_83 (by decide) ?_
                  refine JJ.pick [0, 1, 2, 3, 4, 5] rfl ?_
                  rw [show nI (dd + 1) + (-1) = nI dd from nI_m1]
                  have hdd : 1 ≤ dd := by
                    have y := c6
                    rw [i_le, nI_toInt (by omega)] at y
                    omega
                  refine ihd (by omega) hdd (fun e h1 h2 => ?_)
                  rcases (by omega : e = dd + 1 ∨ dd + 1 < e) with rfl | h3
                  · exact fun z => c9 (by rw [z.2]; rfl)
                  · exact hmax e h3 h2
        refine JJ.pick [0, 1, 2, 3, 4, 5] rfl ?_
        exact key2 m (Nat.le_refl _) hm1 (fun e h1 h2 => absurd h1 (by omega))
      | succ d ih =>
        intro i Mx Lx Px hid hMx hPx
        have hCx : CWF x S Px := hC.keep (fun b k _ _ z => hPx b k z)
        have hAx : cABS x n S Px Mx A := hA.keep h6 (fun b k _ _ z => hMx b k z) (fun b k _ _ z => hPx b k z) (fun _ _ => trivial)
        have hzl := zabove_le (A := A) (seed := seed) i
        refine JJ_iload dX11_chance_30 rfl ?_
        refine JJ_iload_n dX11_chance_32 rfl rfl ?_
        refine JJ_icmp_ge (tgt := 56) dX11_chance_33 (by decide) (fun c11 => absurd c11 (nI_ge (by omega) (by omega))) (fun _ => ?_)
        refine JJ_aload_n dX11_chance_36 rfl rfl ?_
        refine JJ_iload_n dX11_chance_37 rfl rfl ?_
        refine JJ_iload dX11_chance_38 rfl ?_
        refine JJ_iadd dX11_chance_40 ?_
        refine JJ_callV (rest := []) (congrArg Prod.fst (hC.sh (t := 0) (k := 12) (m := 0) (by decide))) rfl rfl (kc_drawnQ hAx hg2 hCx hX) (by omega) mi_X11_drawn lk_X11_253 rfl (Nat.le_of_ble_eq_true rfl) rfl rfl dX11_chance_41 ?_
        intro v12 μ13 h14
        obtain ⟨rfl, My, Ly, Py, rfl, hMy, hPy⟩ := h14
        refine JJ_r1 ?_
        refine JJ_if_ne (tgt := 50) dX11_chance_44 (by decide) (fun c15 => ?_) (fun c15 => ?_)
        · skip
          refine JJ_iinc (v := nI (i + 1)) (lv' := [(5, .int (nI (i + 1))), (4, .int (nI (zabove A seed i))), (0, .ref x), (1, .int seed), (2, .int (nI m)), (3, .int part)]) dX11_chance_50 rfl (nI_add (i) 1) (by decide) rfl ?_
          refine JJ_goto (tgt := 30) dX11_chance_53 (by decide) ?_
          refine JJ.pick [0, 1, 2, 3, 4, 5] rfl ?_
          have hz := zabove_0 c15
          have hih := ih (i + 1) My Ly Py (by omega) (fun b k z => (hMy b k z).trans (hMx b k z)) (fun b k z => (hPy b k z).trans (hPx b k z))
          rw [hz] at hih
          exact hih
        · skip
          refine JJ_iinc (v := nI (zabove A seed i + 1)) (lv' := [(4, .int (nI (zabove A seed i + 1))), (5, .int (nI i)), (0, .ref x), (1, .int seed), (2, .int (nI m)), (3, .int part)]) dX11_chance_47 rfl (nI_add (zabove A seed i) 1) (by decide) rfl ?_
          refine JJ_iinc (v := nI (i + 1)) (lv' := [(5, .int (nI (i + 1))), (4, .int (nI (zabove A seed i + 1))), (0, .ref x), (1, .int seed), (2, .int (nI m)), (3, .int part)]) dX11_chance_50 rfl (nI_add (i) 1) (by decide) rfl ?_
          refine JJ_goto (tgt := 30) dX11_chance_53 (by decide) ?_
          refine JJ.pick [0, 1, 2, 3, 4, 5] rfl ?_
          have hz := zabove_1 c15
          have hih := ih (i + 1) My Ly Py (by omega) (fun b k z => (hMy b k z).trans (hMx b k z)) (fun b k z => (hPy b k z).trans (hPx b k z))
          rw [hz] at hih
          exact hih
    refine JJ.pick [0, 1, 2, 3, 4, 5] rfl ?_
    exact key m 0 M L P (by omega) (fun _ _ _ => rfl) (fun _ _ _ => rfl)
  · skip
    have e0 : zr_chance A seed nn part = -4611686018427387904 := if_pos hk
    rw [e0]
    refine KK_of2 [(0, .ref x), (1, .int seed), (2, .int nn), (3, .int part)] (by decide +kernel) (Nat.le_of_ble_eq_true rfl) rfl ?_
    refine JJ_iload_n dX11_chance_0 rfl rfl ?_
    refine JJ_iconst (v := 1) dX11_chance_1 rfl ?_
    refine JJ_icmp_lt (tgt := 20) dX11_chance_2 (by decide) (fun c16 => ?_) (fun c16 => ?_)
    · skip
      refine JJ_ldc2 (v := (-4611686018427387904)) dX11_chance_20 tb_799 ?_
      refine JJ_lret dX11_chance_23 rfl ?_
      exact cI_q rfl hA hC
    · skip
      refine JJ_iload_n dX11_chance_5 rfl rfl ?_
      refine JJ_bipush (v := 20) dX11_chance_6 rfl ?_
      refine JJ_icmp_gt (tgt := 20) dX11_chance_8 (by decide) (fun c17 => ?_) (fun c17 => ?_)
      · skip
        refine JJ_ldc2 (v := (-4611686018427387904)) dX11_chance_20 tb_799 ?_
        refine JJ_lret dX11_chance_23 rfl ?_
        exact cI_q rfl hA hC
      · skip
        refine JJ_iload_n dX11_chance_11 rfl rfl ?_
        refine JJ_if_lt (tgt := 20) dX11_chance_12 (by decide) (fun c18 => ?_) (fun c18 => ?_)
        · skip
          refine JJ_ldc2 (v := (-4611686018427387904)) dX11_chance_20 tb_799 ?_
          refine JJ_lret dX11_chance_23 rfl ?_
          exact cI_q rfl hA hC
        · skip
          refine JJ_iload_n dX11_chance_15 rfl rfl ?_
          refine JJ_iconst (v := 1) dX11_chance_16 rfl ?_
          refine JJ_icmp_le (tgt := 24) dX11_chance_17 (by decide) (fun c19 => absurd c19 (fun y => hk ⟨by have y1 := c16; have y2 := c17; rw [i_lt] at y1 y2; omega, by have y3 := c18; rw [i_lt] at y3; rw [i_le] at y; show 0 ≤ part.toInt ∧ part.toInt ≤ 1; omega⟩)) (fun _ => ?_)
          refine JJ_ldc2 (v := (-4611686018427387904)) dX11_chance_20 tb_799 ?_
          refine JJ_lret dX11_chance_23 rfl ?_
          exact cI_q rfl hA hC
end C21
