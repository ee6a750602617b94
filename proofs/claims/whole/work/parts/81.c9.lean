section C9
variable {G : Gx} {sc : Nat → Nat → Prop} {n : Nat} {S : Nat → Nat × Nat} {M : Nat → Nat → Int32} {L : Nat → Nat → Int64} {P : Nat → Nat → Option Nat} {x : Nat} {A : Abs}

set_option maxHeartbeats 4000000 in
set_option maxRecDepth 100000 in
theorem kc_told {s what : Int32} (hA : cABS x n S P M A) (hg2 : RNG2 A) (hC : CWF x S P) (hX : HSC x sc) : KK G sc yX11_told cX11_told 4 (some .int) 8 0 0 [.ref x, .int s, .int what] (n, S, M, L, P) (ansI (zr_told A s what) (n, S, M, L, P)) := by
  have hg : RNG A := hg2.1
  have hrl := (rul_lt hg).1
  obtain ⟨cn, hc6, hcA, hcZ⟩ := cnt_e hg
  have h6 := (rul_lt hg).2
  have hct := hA.1
  have hrt := hct.rt hg hA.2.2.1
  have hst := hA.2.2.2.1
  by_cases hw : 0 ≤ what.toInt ∧ what.toInt ≤ 6
  · skip
    obtain ⟨k, hk, rfl⟩ := n_of (m := 6) (by decide) hw
    rcases (by omega : k = 0 ∨ k = 1 ∨ k = 2 ∨ k = 3 ∨ k = 4 ∨ k = 5 ∨ k = 6) with rfl | rfl | rfl | rfl | rfl | rfl | rfl
    · skip
      by_cases hs : isPl s
      · skip
        obtain ⟨p, hp1, rfl⟩ := n_of (m := 1) (by decide) hs
        have e0 : zr_told A (nI p) (nI 0) = A.1 0 p := (if_pos ⟨by decide, (show zokof A (i2n (nI 0)) (nI p) from hs)⟩).trans (by rw [show i2n (nI p) = p from nI_clamp (by omega)]; rfl)
        rw [e0]
        refine KK_of2 [(0, .ref x), (1, .int (nI p)), (2, .int 0)] (by decide +kernel) (Nat.le_of_ble_eq_true rfl) rfl ?_
        refine JJ_iload_n dX11_told_0 rfl rfl ?_
        refine JJ_if_lt (tgt := 34) dX11_told_1 (by decide) (fun c1 => absurd c1 (by decide)) (fun _ => ?_)
        refine JJ_iload_n dX11_told_4 rfl rfl ?_
        refine JJ_iconst (v := 3) dX11_told_5 rfl ?_
        refine JJ_icmp_gt (tgt := 34) dX11_told_6 (by decide) (fun c2 => absurd c2 (by decide)) (fun _ => ?_)
        refine JJ_iload_n dX11_told_9 rfl rfl ?_
        refine JJ_callS (rest := []) (kc_isPlayer) (by omega) mi_X11_isPlayer lk_X11_115 rfl (Nat.le_of_ble_eq_true rfl) rfl rfl dX11_told_10 ?_
        intro v3 μ4 h5
        obtain ⟨rfl, rfl⟩ := h5
        refine JJ_r1 ?_
        refine JJ_eqi (x2 := 1) (b2_t hs) ?_
        refine JJ_if_eq (tgt := 31) dX11_told_13 (by decide) (fun c6 => absurd c6 (by decide)) (fun _ => ?_)
        refine JJ_aload_n dX11_told_16 rfl rfl ?_
        refine JJ_getr (q := x + 40) (cis := [11]) (k := 5) fa_X11_97 (by decide) (congrArg Prod.fst (hC.sh (t := 0) (k := 12) (m := 0) (by decide))) rfl (hC.rf (t := 0) (s := 5) (u := 40) (by decide)) dX11_told_17 ?_
        refine JJ_iload_n dX11_told_20 rfl rfl ?_
        refine JJ_callV (rest := []) (congrArg Prod.fst (hC.2.2.2.1 0 (by decide)).1) rfl rfl (kc_one (c := x + 40) (p := p) (by omega) hrt hC hX) (by omega) mi_X1_one lk_X11_119 rfl (Nat.le_of_ble_eq_true rfl) rfl rfl dX11_told_21 ?_
        intro v7 μ8 h9
        obtain ⟨rfl, rfl⟩ := h9
        refine JJ_r1 ?_
        refine JJ_iload_n dX11_told_24 rfl rfl ?_
        refine JJ_callV (rest := []) (hrt.pl hC (p := p) (by omega)) rfl rfl (kc_value (q := 0) (by decide) (hrt.pl hC (p := p) (by omega)) (fun k => hX.1 _ _ (by omega) (by omega) (by omega))) (by omega) mi_X6_value lk_X11_141 rfl (Nat.le_of_ble_eq_true rfl) rfl rfl dX11_told_25 ?_
        intro v10 μ11 h12
        obtain ⟨rfl, rfl⟩ := h12
        refine JJ_r1 ?_
        refine JJ_goto (tgt := 33) dX11_told_28 (by decide) ?_
        refine JJ_iret dX11_told_33 rfl ?_
        exact ans_i (hct.c0 (by omega))
      · skip
        have e0 : zr_told A s (nI 0) = -100 := if_neg (fun z => hs (show zokof A (i2n (nI 0)) s from z.2))
        rw [e0]
        refine KK_of2 [(0, .ref x), (1, .int s), (2, .int 0)] (by decide +kernel) (Nat.le_of_ble_eq_true rfl) rfl ?_
        refine JJ_iload_n dX11_told_0 rfl rfl ?_
        refine JJ_if_lt (tgt := 34) dX11_told_1 (by decide) (fun c13 => absurd c13 (by decide)) (fun _ => ?_)
        refine JJ_iload_n dX11_told_4 rfl rfl ?_
        refine JJ_iconst (v := 3) dX11_told_5 rfl ?_
        refine JJ_icmp_gt (tgt := 34) dX11_told_6 (by decide) (fun c14 => absurd c14 (by decide)) (fun _ => ?_)
        refine JJ_iload_n dX11_told_9 rfl rfl ?_
        refine JJ_callS (rest := []) (kc_isPlayer) (by omega) mi_X11_isPlayer lk_X11_115 rfl (Nat.le_of_ble_eq_true rfl) rfl rfl dX11_told_10 ?_
        intro v15 μ16 h17
        obtain ⟨rfl, rfl⟩ := h17
        refine JJ_r1 ?_
        refine JJ_eqi (x2 := 0) (b2_f hs) ?_
        refine JJ_if_eq (tgt := 31) dX11_told_13 (by decide) (fun _ => ?_) (fun c18 => absurd (by decide) c18)
        refine JJ_bipush (v := (-100)) dX11_told_31 rfl ?_
        refine JJ_iret dX11_told_33 rfl ?_
        exact ans_i rfl
    · skip
      by_cases hs : isPl s
      · skip
        obtain ⟨p, hp1, rfl⟩ := n_of (m := 1) (by decide) hs
        have e0 : zr_told A (nI p) (nI 1) = A.1 1 p := (if_pos ⟨by decide, (show zokof A (i2n (nI 1)) (nI p) from hs)⟩).trans (by rw [show i2n (nI p) = p from nI_clamp (by omega)]; rfl)
        rw [e0]
        refine KK_of2 [(0, .ref x), (1, .int (nI p)), (2, .int 1)] (by decide +kernel) (Nat.le_of_ble_eq_true rfl) rfl ?_
        refine JJ_iload_n dX11_told_0 rfl rfl ?_
        refine JJ_if_lt (tgt := 34) dX11_told_1 (by decide) (fun c19 => absurd c19 (by decide)) (fun _ => ?_)
        refine JJ_iload_n dX11_told_4 rfl rfl ?_
        refine JJ_iconst (v := 3) dX11_told_5 rfl ?_
        refine JJ_icmp_gt (tgt := 34) dX11_told_6 (by decide) (fun c20 => absurd c20 (by decide)) (fun _ => ?_)
        refine JJ_iload_n dX11_told_9 rfl rfl ?_
        refine JJ_callS (rest := []) (kc_isPlayer) (by omega) mi_X11_isPlayer lk_X11_115 rfl (Nat.le_of_ble_eq_true rfl) rfl rfl dX11_told_10 ?_
        intro v21 μ22 h23
        obtain ⟨rfl, rfl⟩ := h23
        refine JJ_r1 ?_
        refine JJ_eqi (x2 := 1) (b2_t hs) ?_
        refine JJ_if_eq (tgt := 31) dX11_told_13 (by decide) (fun c24 => absurd c24 (by decide)) (fun _ => ?_)
        refine JJ_aload_n dX11_told_16 rfl rfl ?_
        refine JJ_getr (q := x + 40) (cis := [11]) (k := 5) fa_X11_97 (by decide) (congrArg Prod.fst (hC.sh (t := 0) (k := 12) (m := 0) (by decide))) rfl (hC.rf (t := 0) (s := 5) (u := 40) (by decide)) dX11_told_17 ?_
        refine JJ_iload_n dX11_told_20 rfl rfl ?_
        refine JJ_callV (rest := []) (congrArg Prod.fst (hC.2.2.2.1 0 (by decide)).1) rfl rfl (kc_one (c := x + 40) (p := p) (by omega) hrt hC hX) (by omega) mi_X1_one lk_X11_119 rfl (Nat.le_of_ble_eq_true rfl) rfl rfl dX11_told_21 ?_
        intro v25 μ26 h27
        obtain ⟨rfl, rfl⟩ := h27
        refine JJ_r1 ?_
        refine JJ_iload_n dX11_told_24 rfl rfl ?_
        refine JJ_callV (rest := []) (hrt.pl hC (p := p) (by omega)) rfl rfl (kc_value (q := 1) (by decide) (hrt.pl hC (p := p) (by omega)) (fun k => hX.1 _ _ (by omega) (by omega) (by omega))) (by omega) mi_X6_value lk_X11_141 rfl (Nat.le_of_ble_eq_true rfl) rfl rfl dX11_told_25 ?_
        intro v28 μ29 h30
        obtain ⟨rfl, rfl⟩ := h30
        refine JJ_r1 ?_
        refine JJ_goto (tgt := 33) dX11_told_28 (by decide) ?_
        refine JJ_iret dX11_told_33 rfl ?_
        exact ans_i (hct.c1 (by omega))
      · skip
        have e0 : zr_told A s (nI 1) = -100 := if_neg (fun z => hs (show zokof A (i2n (nI 1)) s from z.2))
        rw [e0]
        refine KK_of2 [(0, .ref x), (1, .int s), (2, .int 1)] (by decide +kernel) (Nat.le_of_ble_eq_true rfl) rfl ?_
        refine JJ_iload_n dX11_told_0 rfl rfl ?_
        refine JJ_if_lt (tgt := 34) dX11_told_1 (by decide) (fun c31 => absurd c31 (by decide)) (fun _ => ?_)
        refine JJ_iload_n dX11_told_4 rfl rfl ?_
        refine JJ_iconst (v := 3) dX11_told_5 rfl ?_
        refine JJ_icmp_gt (tgt := 34) dX11_told_6 (by decide) (fun c32 => absurd c32 (by decide)) (fun _ => ?_)
        refine JJ_iload_n dX11_told_9 rfl rfl ?_
        refine JJ_callS (rest := []) (kc_isPlayer) (by omega) mi_X11_isPlayer lk_X11_115 rfl (Nat.le_of_ble_eq_true rfl) rfl rfl dX11_told_10 ?_
        intro v33 μ34 h35
        obtain ⟨rfl, rfl⟩ := h35
        refine JJ_r1 ?_
        refine JJ_eqi (x2 := 0) (b2_f hs) ?_
        refine JJ_if_eq (tgt := 31) dX11_told_13 (by decide) (fun _ => ?_) (fun c36 => absurd (by decide) c36)
        refine JJ_bipush (v := (-100)) dX11_told_31 rfl ?_
        refine JJ_iret dX11_told_33 rfl ?_
        exact ans_i rfl
    · skip
      by_cases hs : isPl s
      · skip
        obtain ⟨p, hp1, rfl⟩ := n_of (m := 1) (by decide) hs
        have e0 : zr_told A (nI p) (nI 2) = A.1 2 p := (if_pos ⟨by decide, (show zokof A (i2n (nI 2)) (nI p) from hs)⟩).trans (by rw [show i2n (nI p) = p from nI_clamp (by omega)]; rfl)
        rw [e0]
        refine KK_of2 [(0, .ref x), (1, .int (nI p)), (2, .int 2)] (by decide +kernel) (Nat.le_of_ble_eq_true rfl) rfl ?_
        refine JJ_iload_n dX11_told_0 rfl rfl ?_
        refine JJ_if_lt (tgt := 34) dX11_told_1 (by decide) (fun c37 => absurd c37 (by decide)) (fun _ => ?_)
        refine JJ_iload_n dX11_told_4 rfl rfl ?_
        refine JJ_iconst (v := 3) dX11_told_5 rfl ?_
        refine JJ_icmp_gt (tgt := 34) dX11_told_6 (by decide) (fun c38 => absurd c38 (by decide)) (fun _ => ?_)
        refine JJ_iload_n dX11_told_9 rfl rfl ?_
        refine JJ_callS (rest := []) (kc_isPlayer) (by omega) mi_X11_isPlayer lk_X11_115 rfl (Nat.le_of_ble_eq_true rfl) rfl rfl dX11_told_10 ?_
        intro v39 μ40 h41
        obtain ⟨rfl, rfl⟩ := h41
        refine JJ_r1 ?_
        refine JJ_eqi (x2 := 1) (b2_t hs) ?_
        refine JJ_if_eq (tgt := 31) dX11_told_13 (by decide) (fun c42 => absurd c42 (by decide)) (fun _ => ?_)
        refine JJ_aload_n dX11_told_16 rfl rfl ?_
        refine JJ_getr (q := x + 40) (cis := [11]) (k := 5) fa_X11_97 (by decide) (congrArg Prod.fst (hC.sh (t := 0) (k := 12) (m := 0) (by decide))) rfl (hC.rf (t := 0) (s := 5) (u := 40) (by decide)) dX11_told_17 ?_
        refine JJ_iload_n dX11_told_20 rfl rfl ?_
        refine JJ_callV (rest := []) (congrArg Prod.fst (hC.2.2.2.1 0 (by decide)).1) rfl rfl (kc_one (c := x + 40) (p := p) (by omega) hrt hC hX) (by omega) mi_X1_one lk_X11_119 rfl (Nat.le_of_ble_eq_true rfl) rfl rfl dX11_told_21 ?_
        intro v43 μ44 h45
        obtain ⟨rfl, rfl⟩ := h45
        refine JJ_r1 ?_
        refine JJ_iload_n dX11_told_24 rfl rfl ?_
        refine JJ_callV (rest := []) (hrt.pl hC (p := p) (by omega)) rfl rfl (kc_value (q := 2) (by decide) (hrt.pl hC (p := p) (by omega)) (fun k => hX.1 _ _ (by omega) (by omega) (by omega))) (by omega) mi_X6_value lk_X11_141 rfl (Nat.le_of_ble_eq_true rfl) rfl rfl dX11_told_25 ?_
        intro v46 μ47 h48
        obtain ⟨rfl, rfl⟩ := h48
        refine JJ_r1 ?_
        refine JJ_goto (tgt := 33) dX11_told_28 (by decide) ?_
        refine JJ_iret dX11_told_33 rfl ?_
        exact ans_i (hct.c2 (by omega))
      · skip
        have e0 : zr_told A s (nI 2) = -100 := if_neg (fun z => hs (show zokof A (i2n (nI 2)) s from z.2))
        rw [e0]
        refine KK_of2 [(0, .ref x), (1, .int s), (2, .int 2)] (by decide +kernel) (Nat.le_of_ble_eq_true rfl) rfl ?_
        refine JJ_iload_n dX11_told_0 rfl rfl ?_
        refine JJ_if_lt (tgt := 34) dX11_told_1 (by decide) (fun c49 => absurd c49 (by decide)) (fun _ => ?_)
        refine JJ_iload_n dX11_told_4 rfl rfl ?_
        refine JJ_iconst (v := 3) dX11_told_5 rfl ?_
        refine JJ_icmp_gt (tgt := 34) dX11_told_6 (by decide) (fun c50 => absurd c50 (by decide)) (fun _ => ?_)
        refine JJ_iload_n dX11_told_9 rfl rfl ?_
        refine JJ_callS (rest := []) (kc_isPlayer) (by omega) mi_X11_isPlayer lk_X11_115 rfl (Nat.le_of_ble_eq_true rfl) rfl rfl dX11_told_10 ?_
        intro v51 μ52 h53
        obtain ⟨rfl, rfl⟩ := h53
        refine JJ_r1 ?_
        refine JJ_eqi (x2 := 0) (b2_f hs) ?_
        refine JJ_if_eq (tgt := 31) dX11_told_13 (by decide) (fun _ => ?_) (fun c54 => absurd (by decide) c54)
        refine JJ_bipush (v := (-100)) dX11_told_31 rfl ?_
        refine JJ_iret dX11_told_33 rfl ?_
        exact ans_i rfl
    · skip
      by_cases hs : isPl s
      · skip
        obtain ⟨p, hp1, rfl⟩ := n_of (m := 1) (by decide) hs
        have e0 : zr_told A (nI p) (nI 3) = A.1 3 p := (if_pos ⟨by decide, (show zokof A (i2n (nI 3)) (nI p) from hs)⟩).trans (by rw [show i2n (nI p) = p from nI_clamp (by omega)]; rfl)
        rw [e0]
        refine KK_of2 [(0, .ref x), (1, .int (nI p)), (2, .int 3)] (by decide +kernel) (Nat.le_of_ble_eq_true rfl) rfl ?_
        refine JJ_iload_n dX11_told_0 rfl rfl ?_
        refine JJ_if_lt (tgt := 34) dX11_told_1 (by decide) (fun c55 => absurd c55 (by decide)) (fun _ => ?_)
        refine JJ_iload_n dX11_told_4 rfl rfl ?_
        refine JJ_iconst (v := 3) dX11_told_5 rfl ?_
        refine JJ_icmp_gt (tgt := 34) dX11_told_6 (by decide) (fun c56 => absurd c56 (by decide)) (fun _ => ?_)
        refine JJ_iload_n dX11_told_9 rfl rfl ?_
        refine JJ_callS (rest := []) (kc_isPlayer) (by omega) mi_X11_isPlayer lk_X11_115 rfl (Nat.le_of_ble_eq_true rfl) rfl rfl dX11_told_10 ?_
        intro v57 μ58 h59
        obtain ⟨rfl, rfl⟩ := h59
        refine JJ_r1 ?_
        refine JJ_eqi (x2 := 1) (b2_t hs) ?_
        refine JJ_if_eq (tgt := 31) dX11_told_13 (by decide) (fun c60 => absurd c60 (by decide)) (fun _ => ?_)
        refine JJ_aload_n dX11_told_16 rfl rfl ?_
        refine JJ_getr (q := x + 40) (cis := [11]) (k := 5) fa_X11_97 (by decide) (congrArg Prod.fst (hC.sh (t := 0) (k := 12) (m := 0) (by decide))) rfl (hC.rf (t := 0) (s := 5) (u := 40) (by decide)) dX11_told_17 ?_
        refine JJ_iload_n dX11_told_20 rfl rfl ?_
        refine JJ_callV (rest := []) (congrArg Prod.fst (hC.2.2.2.1 0 (by decide)).1) rfl rfl (kc_one (c := x + 40) (p := p) (by omega) hrt hC hX) (by omega) mi_X1_one lk_X11_119 rfl (Nat.le_of_ble_eq_true rfl) rfl rfl dX11_told_21 ?_
        intro v61 μ62 h63
        obtain ⟨rfl, rfl⟩ := h63
        refine JJ_r1 ?_
        refine JJ_iload_n dX11_told_24 rfl rfl ?_
        refine JJ_callV (rest := []) (hrt.pl hC (p := p) (by omega)) rfl rfl (kc_value (q := 3) (by decide) (hrt.pl hC (p := p) (by omega)) (fun k => hX.1 _ _ (by omega) (by omega) (by omega))) (by omega) mi_X6_value lk_X11_141 rfl (Nat.le_of_ble_eq_true rfl) rfl rfl dX11_told_25 ?_
        intro v64 μ65 h66
        obtain ⟨rfl, rfl⟩ := h66
        refine JJ_r1 ?_
        refine JJ_goto (tgt := 33) dX11_told_28 (by decide) ?_
        refine JJ_iret dX11_told_33 rfl ?_
        exact ans_i (hct.c3 (by omega))
      · skip
        have e0 : zr_told A s (nI 3) = -100 := if_neg (fun z => hs (show zokof A (i2n (nI 3)) s from z.2))
        rw [e0]
        refine KK_of2 [(0, .ref x), (1, .int s), (2, .int 3)] (by decide +kernel) (Nat.le_of_ble_eq_true rfl) rfl ?_
        refine JJ_iload_n dX11_told_0 rfl rfl ?_
        refine JJ_if_lt (tgt := 34) dX11_told_1 (by decide) (fun c67 => absurd c67 (by decide)) (fun _ => ?_)
        refine JJ_iload_n dX11_told_4 rfl rfl ?_
        refine JJ_iconst (v := 3) dX11_told_5 rfl ?_
        refine JJ_icmp_gt (tgt := 34) dX11_told_6 (by decide) (fun c68 => absurd c68 (by decide)) (fun _ => ?_)
        refine JJ_iload_n dX11_told_9 rfl rfl ?_
        refine JJ_callS (rest := []) (kc_isPlayer) (by omega) mi_X11_isPlayer lk_X11_115 rfl (Nat.le_of_ble_eq_true rfl) rfl rfl dX11_told_10 ?_
        intro v69 μ70 h71
        obtain ⟨rfl, rfl⟩ := h71
        refine JJ_r1 ?_
        refine JJ_eqi (x2 := 0) (b2_f hs) ?_
        refine JJ_if_eq (tgt := 31) dX11_told_13 (by decide) (fun _ => ?_) (fun c72 => absurd (by decide) c72)
        refine JJ_bipush (v := (-100)) dX11_told_31 rfl ?_
        refine JJ_iret dX11_told_33 rfl ?_
        exact ans_i rfl
    · skip
      by_cases hs : isSk A s
      · skip
        obtain ⟨q, hq, rfl⟩ := sk_lt hg hs
        obtain ⟨a, ha, ha1, ha2, hsk⟩ := hst.at hq
        have e0 : zr_told A (nI q) (nI 4) = A.1 6 q := (if_pos ⟨by decide, (show zokof A (i2n (nI 4)) (nI q) from hs)⟩).trans (by rw [show i2n (nI q) = q from nI_clamp (by omega)]; rfl)
        rw [e0]
        refine KK_of2 [(0, .ref x), (1, .int (nI q)), (2, .int 4)] (by decide +kernel) (Nat.le_of_ble_eq_true rfl) rfl ?_
        refine JJ_iload_n dX11_told_0 rfl rfl ?_
        refine JJ_if_lt (tgt := 34) dX11_told_1 (by decide) (fun c73 => absurd c73 (by decide)) (fun _ => ?_)
        refine JJ_iload_n dX11_told_4 rfl rfl ?_
        refine JJ_iconst (v := 3) dX11_told_5 rfl ?_
        refine JJ_icmp_gt (tgt := 34) dX11_told_6 (by decide) (fun _ => ?_) (fun c74 => absurd (by decide) c74)
        refine JJ_aload_n dX11_told_34 rfl rfl ?_
        refine JJ_iload_n dX11_told_35 rfl rfl ?_
        refine JJ_callV (rest := []) (congrArg Prod.fst (hC.sh (t := 0) (k := 12) (m := 0) (by decide))) rfl rfl (kc_strokeAt hq ha hst hg hC hX) (by omega) mi_X11_strokeAt lk_X11_129 rfl (Nat.le_of_ble_eq_true rfl) rfl rfl dX11_told_36 ?_
        intro v75 μ76 h77
        obtain ⟨rfl, rfl⟩ := h77
        refine JJ_r1 ?_
        refine JJ_astore_n (lv' := [(3, .ref a), (0, .ref x), (1, .int (nI q)), (2, .int 4)]) dX11_told_39 rfl (by decide) rfl ?_
        refine JJ_aload_n dX11_told_40 rfl rfl ?_
        refine JJ_ifnullR dX11_told_41 ?_
        refine JJ_iload_n dX11_told_44 rfl rfl ?_
        refine JJ_iconst (v := 4) dX11_told_45 rfl ?_
        refine JJ_icmp_lt (tgt := 55) dX11_told_46 (by decide) (fun c78 => absurd c78 (by decide)) (fun _ => ?_)
        refine JJ_iload_n dX11_told_49 rfl rfl ?_
        refine JJ_bipush (v := 6) dX11_told_50 rfl ?_
        refine JJ_icmp_le (tgt := 58) dX11_told_52 (by decide) (fun _ => ?_) (fun c79 => absurd (by decide) c79)
        refine JJ_iload_n dX11_told_58 rfl rfl ?_
        refine JJ_bipush (v := 6) dX11_told_59 rfl ?_
        refine JJ_icmp_ne (tgt := 71) dX11_told_61 (by decide) (fun _ => ?_) (fun c80 => absurd c80 (by decide))
        refine JJ_aload_n dX11_told_71 rfl rfl ?_
        refine JJ_iload_n dX11_told_72 rfl rfl ?_
        refine ju_X11_149 hsk rfl (fun k => hX.2.1 _ _ ha1) (by omega) (Nat.le_of_ble_eq_true rfl) dX11_told_73 ?_
        refine JJ_iret dX11_told_76 rfl ?_
        obtain ⟨ci, y1, y2, y3, y4, y5⟩ := hsk
        exact ans_i y4
      · skip
        have e0 : zr_told A s (nI 4) = -100 := if_neg (fun z => hs (show zokof A (i2n (nI 4)) s from z.2))
        rw [e0]
        refine KK_of2 [(0, .ref x), (1, .int s), (2, .int 4)] (by decide +kernel) (Nat.le_of_ble_eq_true rfl) rfl ?_
        refine JJ_iload_n dX11_told_0 rfl rfl ?_
        refine JJ_if_lt (tgt := 34) dX11_told_1 (by decide) (fun c81 => absurd c81 (by decide)) (fun _ => ?_)
        refine JJ_iload_n dX11_told_4 rfl rfl ?_
        refine JJ_iconst (v := 3) dX11_told_5 rfl ?_
        refine JJ_icmp_gt (tgt := 34) dX11_told_6 (by decide) (fun _ => ?_) (fun c82 => absurd (by decide) c82)
        refine JJ_aload_n dX11_told_34 rfl rfl ?_
        refine JJ_iload_n dX11_told_35 rfl rfl ?_
        refine JJ_callV (rest := []) (congrArg Prod.fst (hC.sh (t := 0) (k := 12) (m := 0) (by decide))) rfl rfl (kc_strokeNo hs hst hg hC hX) (by omega) mi_X11_strokeAt lk_X11_129 rfl (Nat.le_of_ble_eq_true rfl) rfl rfl dX11_told_36 ?_
        intro v83 μ84 h85
        obtain ⟨rfl, rfl⟩ := h85
        refine JJ_r1 ?_
        refine JJ_astore_nN (lv' := [(3, .null), (0, .ref x), (1, .int s), (2, .int 4)]) dX11_told_39 rfl (by decide) rfl ?_
        refine JJ_aload_nN dX11_told_40 rfl rfl ?_
        refine JJ_ifnullN (tgt := 55) dX11_told_41 (by decide) ?_
        refine JJ_bipush (v := (-100)) dX11_told_55 rfl ?_
        refine JJ_iret dX11_told_57 rfl ?_
        exact ans_i rfl
    · skip
      by_cases hs : isSk A s
      · skip
        obtain ⟨q, hq, rfl⟩ := sk_lt hg hs
        obtain ⟨a, ha, ha1, ha2, hsk⟩ := hst.at hq
        have e0 : zr_told A (nI q) (nI 5) = A.1 7 q := (if_pos ⟨by decide, (show zokof A (i2n (nI 5)) (nI q) from hs)⟩).trans (by rw [show i2n (nI q) = q from nI_clamp (by omega)]; rfl)
        rw [e0]
        refine KK_of2 [(0, .ref x), (1, .int (nI q)), (2, .int 5)] (by decide +kernel) (Nat.le_of_ble_eq_true rfl) rfl ?_
        refine JJ_iload_n dX11_told_0 rfl rfl ?_
        refine JJ_if_lt (tgt := 34) dX11_told_1 (by decide) (fun c86 => absurd c86 (by decide)) (fun _ => ?_)
        refine JJ_iload_n dX11_told_4 rfl rfl ?_
        refine JJ_iconst (v := 3) dX11_told_5 rfl ?_
        refine JJ_icmp_gt (tgt := 34) dX11_told_6 (by decide) (fun _ => ?_) (fun c87 => absurd (by decide) c87)
        refine JJ_aload_n dX11_told_34 rfl rfl ?_
        refine JJ_iload_n dX11_told_35 rfl rfl ?_
        refine JJ_callV (rest := []) (congrArg Prod.fst (hC.sh (t := 0) (k := 12) (m := 0) (by decide))) rfl rfl (kc_strokeAt hq ha hst hg hC hX) (by omega) mi_X11_strokeAt lk_X11_129 rfl (Nat.le_of_ble_eq_true rfl) rfl rfl dX11_told_36 ?_
        intro v88 μ89 h90
        obtain ⟨rfl, rfl⟩ := h90
        refine JJ_r1 ?_
        refine JJ_astore_n (lv' := [(3, .ref a), (0, .ref x), (1, .int (nI q)), (2, .int 5)]) dX11_told_39 rfl (by decide) rfl ?_
        refine JJ_aload_n dX11_told_40 rfl rfl ?_
        refine JJ_ifnullR dX11_told_41 ?_
        refine JJ_iload_n dX11_told_44 rfl rfl ?_
        refine JJ_iconst (v := 4) dX11_told_45 rfl ?_
        refine JJ_icmp_lt (tgt := 55) dX11_told_46 (by decide) (fun c91 => absurd c91 (by decide)) (fun _ => ?_)
        refine JJ_iload_n dX11_told_49 rfl rfl ?_
        refine JJ_bipush (v := 6) dX11_told_50 rfl ?_
        refine JJ_icmp_le (tgt := 58) dX11_told_52 (by decide) (fun _ => ?_) (fun c92 => absurd (by decide) c92)
        refine JJ_iload_n dX11_told_58 rfl rfl ?_
        refine JJ_bipush (v := 6) dX11_told_59 rfl ?_
        refine JJ_icmp_ne (tgt := 71) dX11_told_61 (by decide) (fun _ => ?_) (fun c93 => absurd c93 (by decide))
        refine JJ_aload_n dX11_told_71 rfl rfl ?_
        refine JJ_iload_n dX11_told_72 rfl rfl ?_
        refine ju_X11_149 hsk rfl (fun k => hX.2.1 _ _ ha1) (by omega) (Nat.le_of_ble_eq_true rfl) dX11_told_73 ?_
        refine JJ_iret dX11_told_76 rfl ?_
        obtain ⟨ci, y1, y2, y3, y4, y5⟩ := hsk
        exact ans_i y5
      · skip
        have e0 : zr_told A s (nI 5) = -100 := if_neg (fun z => hs (show zokof A (i2n (nI 5)) s from z.2))
        rw [e0]
        refine KK_of2 [(0, .ref x), (1, .int s), (2, .int 5)] (by decide +kernel) (Nat.le_of_ble_eq_true rfl) rfl ?_
        refine JJ_iload_n dX11_told_0 rfl rfl ?_
        refine JJ_if_lt (tgt := 34) dX11_told_1 (by decide) (fun c94 => absurd c94 (by decide)) (fun _ => ?_)
        refine JJ_iload_n dX11_told_4 rfl rfl ?_
        refine JJ_iconst (v := 3) dX11_told_5 rfl ?_
        refine JJ_icmp_gt (tgt := 34) dX11_told_6 (by decide) (fun _ => ?_) (fun c95 => absurd (by decide) c95)
        refine JJ_aload_n dX11_told_34 rfl rfl ?_
        refine JJ_iload_n dX11_told_35 rfl rfl ?_
        refine JJ_callV (rest := []) (congrArg Prod.fst (hC.sh (t := 0) (k := 12) (m := 0) (by decide))) rfl rfl (kc_strokeNo hs hst hg hC hX) (by omega) mi_X11_strokeAt lk_X11_129 rfl (Nat.le_of_ble_eq_true rfl) rfl rfl dX11_told_36 ?_
        intro v96 μ97 h98
        obtain ⟨rfl, rfl⟩ := h98
        refine JJ_r1 ?_
        refine JJ_astore_nN (lv' := [(3, .null), (0, .ref x), (1, .int s), (2, .int 5)]) dX11_told_39 rfl (by decide) rfl ?_
        refine JJ_aload_nN dX11_told_40 rfl rfl ?_
        refine JJ_ifnullN (tgt := 55) dX11_told_41 (by decide) ?_
        refine JJ_bipush (v := (-100)) dX11_told_55 rfl ?_
        refine JJ_iret dX11_told_57 rfl ?_
        exact ans_i rfl
    · skip
      by_cases hs : isSk A s
      · skip
        obtain ⟨q, hq, rfl⟩ := sk_lt hg hs
        obtain ⟨a, ha, ha1, ha2, hsk⟩ := hst.at hq
        have e0 : zr_told A (nI q) (nI 6) = A.1 5 q := (if_pos ⟨by decide, (show zokof A (i2n (nI 6)) (nI q) from hs)⟩).trans (by rw [show i2n (nI q) = q from nI_clamp (by omega)]; rfl)
        rw [e0]
        refine KK_of2 [(0, .ref x), (1, .int (nI q)), (2, .int 6)] (by decide +kernel) (Nat.le_of_ble_eq_true rfl) rfl ?_
        refine JJ_iload_n dX11_told_0 rfl rfl ?_
        refine JJ_if_lt (tgt := 34) dX11_told_1 (by decide) (fun c99 => absurd c99 (by decide)) (fun _ => ?_)
        refine JJ_iload_n dX11_told_4 rfl rfl ?_
        refine JJ_iconst (v := 3) dX11_told_5 rfl ?_
        refine JJ_icmp_gt (tgt := 34) dX11_told_6 (by decide) (fun _ => ?_) (fun c100 => absurd (by decide) c100)
        refine JJ_aload_n dX11_told_34 rfl rfl ?_
        refine JJ_iload_n dX11_told_35 rfl rfl ?_
        refine JJ_callV (rest := []) (congrArg Prod.fst (hC.sh (t := 0) (k := 12) (m := 0) (by decide))) rfl rfl (kc_strokeAt hq ha hst hg hC hX) (by omega) mi_X11_strokeAt lk_X11_129 rfl (Nat.le_of_ble_eq_true rfl) rfl rfl dX11_told_36 ?_
        intro v101 μ102 h103
        obtain ⟨rfl, rfl⟩ := h103
        refine JJ_r1 ?_
        refine JJ_astore_n (lv' := [(3, .ref a), (0, .ref x), (1, .int (nI q)), (2, .int 6)]) dX11_told_39 rfl (by decide) rfl ?_
        refine JJ_aload_n dX11_told_40 rfl rfl ?_
        refine JJ_ifnullR dX11_told_41 ?_
        refine JJ_iload_n dX11_told_44 rfl rfl ?_
        refine JJ_iconst (v := 4) dX11_told_45 rfl ?_
        refine JJ_icmp_lt (tgt := 55) dX11_told_46 (by decide) (fun c104 => absurd c104 (by decide)) (fun _ => ?_)
        refine JJ_iload_n dX11_told_49 rfl rfl ?_
        refine JJ_bipush (v := 6) dX11_told_50 rfl ?_
        refine JJ_icmp_le (tgt := 58) dX11_told_52 (by decide) (fun _ => ?_) (fun c105 => absurd (by decide) c105)
        refine JJ_iload_n dX11_told_58 rfl rfl ?_
        refine JJ_bipush (v := 6) dX11_told_59 rfl ?_
        refine JJ_icmp_ne (tgt := 71) dX11_told_61 (by decide) (fun c106 => absurd (by decide) c106) (fun _ => ?_)
        refine JJ_aload_n dX11_told_64 rfl rfl ?_
        refine ju_X11_145 hsk rfl (fun k => hX.2.1 _ _ ha1) (by omega) (Nat.le_of_ble_eq_true rfl) dX11_told_65 ?_
        refine JJ_goto (tgt := 76) dX11_told_68 (by decide) ?_
        refine JJ_iret dX11_told_76 rfl ?_
        exact ans_i rfl
      · skip
        have e0 : zr_told A s (nI 6) = -100 := if_neg (fun z => hs (show zokof A (i2n (nI 6)) s from z.2))
        rw [e0]
        refine KK_of2 [(0, .ref x), (1, .int s), (2, .int 6)] (by decide +kernel) (Nat.le_of_ble_eq_true rfl) rfl ?_
        refine JJ_iload_n dX11_told_0 rfl rfl ?_
        refine JJ_if_lt (tgt := 34) dX11_told_1 (by decide) (fun c107 => absurd c107 (by decide)) (fun _ => ?_)
        refine JJ_iload_n dX11_told_4 rfl rfl ?_
        refine JJ_iconst (v := 3) dX11_told_5 rfl ?_
        refine JJ_icmp_gt (tgt := 34) dX11_told_6 (by decide) (fun _ => ?_) (fun c108 => absurd (by decide) c108)
        refine JJ_aload_n dX11_told_34 rfl rfl ?_
        refine JJ_iload_n dX11_told_35 rfl rfl ?_
        refine JJ_callV (rest := []) (congrArg Prod.fst (hC.sh (t := 0) (k := 12) (m := 0) (by decide))) rfl rfl (kc_strokeNo hs hst hg hC hX) (by omega) mi_X11_strokeAt lk_X11_129 rfl (Nat.le_of_ble_eq_true rfl) rfl rfl dX11_told_36 ?_
        intro v109 μ110 h111
        obtain ⟨rfl, rfl⟩ := h111
        refine JJ_r1 ?_
        refine JJ_astore_nN (lv' := [(3, .null), (0, .ref x), (1, .int s), (2, .int 6)]) dX11_told_39 rfl (by decide) rfl ?_
        refine JJ_aload_nN dX11_told_40 rfl rfl ?_
        refine JJ_ifnullN (tgt := 55) dX11_told_41 (by decide) ?_
        refine JJ_bipush (v := (-100)) dX11_told_55 rfl ?_
        refine JJ_iret dX11_told_57 rfl ?_
        exact ans_i rfl
  · skip
    have e0 : zr_told A s what = -100 := if_neg (fun z => hw z.1)
    rw [e0]
    have hw2 : what.toInt < 0 ∨ 6 < what.toInt := by omega
    have z0 : (0 : Int32).toInt = 0 := rfl
    have z3 : (3 : Int32).toInt = 3 := rfl
    have z4 : (4 : Int32).toInt = 4 := rfl
    have z6 : (6 : Int32).toInt = 6 := rfl
    by_cases hs : isSk A s
    · skip
      obtain ⟨q, hq, rfl⟩ := sk_lt hg hs
      obtain ⟨a, ha, ha1, ha2, hsk⟩ := hst.at hq
      refine KK_of2 [(0, .ref x), (1, .int (nI q)), (2, .int what)] (by decide +kernel) (Nat.le_of_ble_eq_true rfl) rfl ?_
      refine JJ_iload_n dX11_told_0 rfl rfl ?_
      refine JJ_if_lt (tgt := 34) dX11_told_1 (by decide) (fun c112 => ?_) (fun c112 => ?_)
      · skip
        refine JJ_aload_n dX11_told_34 rfl rfl ?_
        refine JJ_iload_n dX11_told_35 rfl rfl ?_
        refine JJ_callV (rest := []) (congrArg Prod.fst (hC.sh (t := 0) (k := 12) (m := 0) (by decide))) rfl rfl (kc_strokeAt hq ha hst hg hC hX) (by omega) mi_X11_strokeAt lk_X11_129 rfl (Nat.le_of_ble_eq_true rfl) rfl rfl dX11_told_36 ?_
        intro v113 μ114 h115
        obtain ⟨rfl, rfl⟩ := h115
        refine JJ_r1 ?_
        refine JJ_astore_n (lv' := [(3, .ref a), (0, .ref x), (1, .int (nI q)), (2, .int what)]) dX11_told_39 rfl (by decide) rfl ?_
        refine JJ_aload_n dX11_told_40 rfl rfl ?_
        refine JJ_ifnullR dX11_told_41 ?_
        refine JJ_iload_n dX11_told_44 rfl rfl ?_
        refine JJ_iconst (v := 4) dX11_told_45 rfl ?_
        refine JJ_icmp_lt (tgt := 55) dX11_told_46 (by decide) (fun c116 => ?_) (fun c116 => ?_)
        · skip
          refine JJ_bipush (v := (-100)) dX11_told_55 rfl ?_
          refine JJ_iret dX11_told_57 rfl ?_
          exact ans_i rfl
        · skip
          refine JJ_iload_n dX11_told_49 rfl rfl ?_
          refine JJ_bipush (v := 6) dX11_told_50 rfl ?_
          refine JJ_icmp_le (tgt := 58) dX11_told_52 (by decide) (fun c117 => absurd c117 (fun y => by have y1 := c116; rw [i_lt] at y1; rw [i_le] at y; omega)) (fun _ => ?_)
          refine JJ_bipush (v := (-100)) dX11_told_55 rfl ?_
          refine JJ_iret dX11_told_57 rfl ?_
          exact ans_i rfl
      · skip
        refine JJ_iload_n dX11_told_4 rfl rfl ?_
        refine JJ_iconst (v := 3) dX11_told_5 rfl ?_
        refine JJ_icmp_gt (tgt := 34) dX11_told_6 (by decide) (fun _ => ?_) (fun c118 => absurd (i_lt.mpr (by have y := c112; rw [i_lt] at y; omega)) c118)
        refine JJ_aload_n dX11_told_34 rfl rfl ?_
        refine JJ_iload_n dX11_told_35 rfl rfl ?_
        refine JJ_callV (rest := []) (congrArg Prod.fst (hC.sh (t := 0) (k := 12) (m := 0) (by decide))) rfl rfl (kc_strokeAt hq ha hst hg hC hX) (by omega) mi_X11_strokeAt lk_X11_129 rfl (Nat.le_of_ble_eq_true rfl) rfl rfl dX11_told_36 ?_
        intro v119 μ120 h121
        obtain ⟨rfl, rfl⟩ := h121
        refine JJ_r1 ?_
        refine JJ_astore_n (lv' := [(3, .ref a), (0, .ref x), (1, .int (nI q)), (2, .int what)]) dX11_told_39 rfl (by decide) rfl ?_
        refine JJ_aload_n dX11_told_40 rfl rfl ?_
        refine JJ_ifnullR dX11_told_41 ?_
        refine JJ_iload_n dX11_told_44 rfl rfl ?_
        refine JJ_iconst (v := 4) dX11_told_45 rfl ?_
        refine JJ_icmp_lt (tgt := 55) dX11_told_46 (by decide) (fun c122 => ?_) (fun c122 => ?_)
        · skip
          refine JJ_bipush (v := (-100)) dX11_told_55 rfl ?_
          refine JJ_iret dX11_told_57 rfl ?_
          exact ans_i rfl
        · skip
          refine JJ_iload_n dX11_told_49 rfl rfl ?_
          refine JJ_bipush (v := 6) dX11_told_50 rfl ?_
          refine JJ_icmp_le (tgt := 58) dX11_told_52 (by decide) (fun c123 => absurd c123 (fun y => by have y1 := c122; rw [i_lt] at y1; rw [i_le] at y; omega)) (fun _ => ?_)
          refine JJ_bipush (v := (-100)) dX11_told_55 rfl ?_
          refine JJ_iret dX11_told_57 rfl ?_
          exact ans_i rfl
    · skip
      refine KK_of2 [(0, .ref x), (1, .int s), (2, .int what)] (by decide +kernel) (Nat.le_of_ble_eq_true rfl) rfl ?_
      refine JJ_iload_n dX11_told_0 rfl rfl ?_
      refine JJ_if_lt (tgt := 34) dX11_told_1 (by decide) (fun c124 => ?_) (fun c124 => ?_)
      · skip
        refine JJ_aload_n dX11_told_34 rfl rfl ?_
        refine JJ_iload_n dX11_told_35 rfl rfl ?_
        refine JJ_callV (rest := []) (congrArg Prod.fst (hC.sh (t := 0) (k := 12) (m := 0) (by decide))) rfl rfl (kc_strokeNo hs hst hg hC hX) (by omega) mi_X11_strokeAt lk_X11_129 rfl (Nat.le_of_ble_eq_true rfl) rfl rfl dX11_told_36 ?_
        intro v125 μ126 h127
        obtain ⟨rfl, rfl⟩ := h127
        refine JJ_r1 ?_
        refine JJ_astore_nN (lv' := [(3, .null), (0, .ref x), (1, .int s), (2, .int what)]) dX11_told_39 rfl (by decide) rfl ?_
        refine JJ_aload_nN dX11_told_40 rfl rfl ?_
        refine JJ_ifnullN (tgt := 55) dX11_told_41 (by decide) ?_
        refine JJ_bipush (v := (-100)) dX11_told_55 rfl ?_
        refine JJ_iret dX11_told_57 rfl ?_
        exact ans_i rfl
      · skip
        refine JJ_iload_n dX11_told_4 rfl rfl ?_
        refine JJ_iconst (v := 3) dX11_told_5 rfl ?_
        refine JJ_icmp_gt (tgt := 34) dX11_told_6 (by decide) (fun _ => ?_) (fun c128 => absurd (i_lt.mpr (by have y := c124; rw [i_lt] at y; omega)) c128)
        refine JJ_aload_n dX11_told_34 rfl rfl ?_
        refine JJ_iload_n dX11_told_35 rfl rfl ?_
        refine JJ_callV (rest := []) (congrArg Prod.fst (hC.sh (t := 0) (k := 12) (m := 0) (by decide))) rfl rfl (kc_strokeNo hs hst hg hC hX) (by omega) mi_X11_strokeAt lk_X11_129 rfl (Nat.le_of_ble_eq_true rfl) rfl rfl dX11_told_36 ?_
        intro v129 μ130 h131
        obtain ⟨rfl, rfl⟩ := h131
        refine JJ_r1 ?_
        refine JJ_astore_nN (lv' := [(3, .null), (0, .ref x), (1, .int s), (2, .int what)]) dX11_told_39 rfl (by decide) rfl ?_
        refine JJ_aload_nN dX11_told_40 rfl rfl ?_
        refine JJ_ifnullN (tgt := 55) dX11_told_41 (by decide) ?_
        refine JJ_bipush (v := (-100)) dX11_told_55 rfl ?_
        refine JJ_iret dX11_told_57 rfl ?_
        exact ans_i rfl
theorem rul_n (hg : RNG A) : nI (i2n (A.1 9 0)) = A.1 9 0 := by
  obtain ⟨-, -, -, -, -, k, h1, h6, ek, r, hr, er⟩ := hg
  rw [er, show i2n (nI r) = r from nI_clamp (by omega)]
set_option maxHeartbeats 4000000 in
set_option maxRecDepth 100000 in
theorem kc_count {what : Int32} (hA : cABS x n S P M A) (hg2 : RNG2 A) (hC : CWF x S P) (hX : HSC x sc) : KK G sc yX11_count cX11_count 2 (some .int) 1 0 0 [.ref x, .int what] (n, S, M, L, P) (ansI (zr_count A what) (n, S, M, L, P)) := by
  have hg : RNG A := hg2.1
  have hrl := (rul_lt hg).1
  obtain ⟨cn, hc6, hcA, hcZ⟩ := cnt_e hg
  have h6 := (rul_lt hg).2
  have hct := hA.1
  have hrt := hct.rt hg hA.2.2.1
  have hst := hA.2.2.2.1
  by_cases hw : 0 ≤ what.toInt ∧ what.toInt ≤ 4
  · skip
    obtain ⟨k, hk, rfl⟩ := n_of (m := 4) (by decide) hw
    rcases (by omega : k = 0 ∨ k = 1 ∨ k = 2 ∨ k = 3 ∨ k = 4) with rfl | rfl | rfl | rfl | rfl
    · skip
      have e0 : zr_count A (nI 0) = A.1 8 0 := (if_neg (fun z => z (by decide))).trans (if_pos rfl)
      rw [e0]
      refine KK_of2 [(0, .ref x), (1, .int 0)] (by decide +kernel) (Nat.le_of_ble_eq_true rfl) rfl ?_
      refine JJ_iload_n dX11_count_0 rfl rfl ?_
      refine JJ_tabIn (tgt := 36) (0) dX11_count_1 rfl (by decide) rfl (by decide) ?_
      refine JJ_aload_n dX11_count_36 rfl rfl ?_
      refine JJ_geti (v := A.1 8 0) (cis := [11]) (k := 4) fa_X11_32 (by decide) (congrArg Prod.fst (hC.sh (t := 0) (k := 12) (m := 0) (by decide))) rfl (hX.1 _ _ (by omega) (by omega) (by omega)) hst.1 dX11_count_37 ?_
      refine JJ_iret dX11_count_40 rfl ?_
      exact ans_i rfl
    · skip
      have e0 : zr_count A (nI 1) = A.1 4 0 := (if_neg (fun z => z (by decide))).trans ((if_neg (by decide)).trans (if_pos rfl))
      rw [e0]
      refine KK_of2 [(0, .ref x), (1, .int 1)] (by decide +kernel) (Nat.le_of_ble_eq_true rfl) rfl ?_
      refine JJ_iload_n dX11_count_0 rfl rfl ?_
      refine JJ_tabIn (tgt := 41) (1) dX11_count_1 rfl (by decide) rfl (by decide) ?_
      refine JJ_aload_n dX11_count_41 rfl rfl ?_
      refine JJ_getr (q := x + 40) (cis := [11]) (k := 5) fa_X11_97 (by decide) (congrArg Prod.fst (hC.sh (t := 0) (k := 12) (m := 0) (by decide))) rfl (hC.rf (t := 0) (s := 5) (u := 40) (by decide)) dX11_count_42 ?_
      refine JJ_geti (v := A.1 4 0) (cis := [1]) (k := 2) fa_X11_112 (by decide) (congrArg Prod.fst (hC.2.2.2.1 0 (by decide)).1) rfl (hX.1 _ _ (by omega) (by omega) (by omega)) hct.w dX11_count_45 ?_
      refine JJ_iret dX11_count_48 rfl ?_
      exact ans_i rfl
    · skip
      have e0 : zr_count A (nI 2) = A.1 10 0 := (if_neg (fun z => z (by decide))).trans ((if_neg (by decide)).trans ((if_neg (by decide)).trans (if_pos rfl)))
      rw [e0]
      refine KK_of2 [(0, .ref x), (1, .int 2)] (by decide +kernel) (Nat.le_of_ble_eq_true rfl) rfl ?_
      refine JJ_iload_n dX11_count_0 rfl rfl ?_
      refine JJ_tabIn (tgt := 49) (2) dX11_count_1 rfl (by decide) rfl (by decide) ?_
      refine JJ_aload_n dX11_count_49 rfl rfl ?_
      refine JJ_geti (v := A.1 10 0) (cis := [11]) (k := 2) fa_X11_22 (by decide) (congrArg Prod.fst (hC.sh (t := 0) (k := 12) (m := 0) (by decide))) rfl (hX.1 _ _ (by omega) (by omega) (by omega)) hA.2.1 dX11_count_50 ?_
      refine JJ_iret dX11_count_53 rfl ?_
      exact ans_i rfl
    · skip
      have e0 : zr_count A (nI 3) = A.1 12 0 := (if_neg (fun z => z (by decide))).trans ((if_neg (by decide)).trans ((if_neg (by decide)).trans ((if_neg (by decide)).trans (if_pos rfl))))
      rw [e0]
      refine KK_of2 [(0, .ref x), (1, .int 3)] (by decide +kernel) (Nat.le_of_ble_eq_true rfl) rfl ?_
      refine JJ_iload_n dX11_count_0 rfl rfl ?_
      refine JJ_tabIn (tgt := 54) (3) dX11_count_1 rfl (by decide) rfl (by decide) ?_
      refine JJ_aload_n dX11_count_54 rfl rfl ?_
      refine JJ_getr (q := x + 2) (cis := [11]) (k := 1) fa_X11_18 (by decide) (congrArg Prod.fst (hC.sh (t := 0) (k := 12) (m := 0) (by decide))) rfl (hC.rf (t := 0) (s := 1) (u := 2) (by decide)) dX11_count_55 ?_
      refine JJ_geti (v := A.1 12 0) (cis := [9]) (k := 1) fa_X11_91 (by decide) (congrArg Prod.fst (hC.sh (t := 2) (k := 10) (m := 0) (by decide))) rfl (hX.1 _ _ (by omega) (by omega) (by omega)) hA.2.2.2.2.2.1.1 dX11_count_58 ?_
      refine JJ_iret dX11_count_61 rfl ?_
      exact ans_i rfl
    · skip
      have e0 : zr_count A (nI 4) = A.1 9 0 := (if_neg (fun z => z (by decide))).trans ((if_neg (by decide)).trans ((if_neg (by decide)).trans ((if_neg (by decide)).trans (if_neg (by decide)))))
      rw [e0]
      refine KK_of2 [(0, .ref x), (1, .int 4)] (by decide +kernel) (Nat.le_of_ble_eq_true rfl) rfl ?_
      refine JJ_iload_n dX11_count_0 rfl rfl ?_
      refine JJ_tabIn (tgt := 62) (4) dX11_count_1 rfl (by decide) rfl (by decide) ?_
      refine JJ_aload_n dX11_count_62 rfl rfl ?_
      refine JJ_getr (q := x + 40) (cis := [11]) (k := 5) fa_X11_97 (by decide) (congrArg Prod.fst (hC.sh (t := 0) (k := 12) (m := 0) (by decide))) rfl (hC.rf (t := 0) (s := 5) (u := 40) (by decide)) dX11_count_63 ?_
      refine JJ_getr (q := x + 10 + 5 * i2n (A.1 9 0)) (cis := [1]) (k := 3) fa_X11_173 (by decide) (congrArg Prod.fst (hC.2.2.2.1 0 (by decide)).1) rfl hct.2.2.2 dX11_count_66 ?_
      refine JJ_geti (v := A.1 9 0) (cis := [10]) (k := 0) fa_X11_177 (by decide) (hC.tsh (by have := (rul_lt hg).1; omega)).1 rfl (hX.1 _ _ (by omega) (by omega) (by omega)) ((hA.2.2.1.2 _ (by have := (rul_lt hg).1; omega)).trans (rul_n hg)) dX11_count_69 ?_
      refine JJ_iret dX11_count_72 rfl ?_
      exact ans_i rfl
  · skip
    have e0 : zr_count A what = -2 := if_pos hw
    rw [e0]
    refine KK_of2 [(0, .ref x), (1, .int what)] (by decide +kernel) (Nat.le_of_ble_eq_true rfl) rfl ?_
    refine JJ_iload_n dX11_count_0 rfl rfl ?_
    refine JJ_tabOut (tgt := 73) dX11_count_1 (by omega) (by decide) ?_
    refine JJ_bipush (v := (-2)) dX11_count_73 rfl ?_
    refine JJ_iret dX11_count_75 rfl ?_
    exact ans_i rfl
end C9
