section C10
variable {G : Gx} {sc : Nat → Nat → Prop} {n : Nat} {S : Nat → Nat × Nat} {M : Nat → Nat → Int32} {L : Nat → Nat → Int64} {P : Nat → Nat → Option Nat} {x : Nat} {A : Abs}

theorem way_rng {way : Int32} (h0 : 0 ≤ way) (h1 : 0 ≤ (way / 100).toInt ∧ (way / 100).toInt ≤ 24) : 0 ≤ way.toInt ∧ way.toInt ≤ 2499 := by
  rw [i_le, show (0 : Int32).toInt = 0 from rfl] at h0
  refine ⟨h0, ?_⟩
  have e : (way / 100).toInt = way.toInt.tdiv 100 := Int32.toInt_div_of_ne_right way 100 (by decide)
  have h3 : way.toInt.tdiv 100 = way.toInt / 100 := Int.tdiv_eq_ediv_of_nonneg h0
  rw [e, h3] at h1
  omega
set_option maxHeartbeats 4000000 in
set_option maxRecDepth 100000 in
theorem kc_needsM {pl way : Int32} (hA : cABS x n S P M A) (hg2 : RNG2 A) (hC : CWF x S P) (hX : HSC x sc) : KK G sc yX11_needs cX11_needs 5 (some .int) 8 0 0 [.ref x, .int pl, .int way] (n, S, M, L, P) (ansI (zr_needs A pl way) (n, S, M, L, P)) := by
  have hg : RNG A := hg2.1
  have hrl := (rul_lt hg).1
  obtain ⟨cn, hc6, hcA, hcZ⟩ := cnt_e hg
  have h6 := (rul_lt hg).2
  have hct := hA.1
  have hrt := hct.rt hg hA.2.2.1
  have hst := hA.2.2.2.1
  by_cases hs : isPl pl
  · skip
    obtain ⟨p, hp1, rfl⟩ := n_of (m := 1) (by decide) hs
    have hp : p < 2 := by omega
    have z0 : (0 : Int32).toInt = 0 := rfl
    refine KK_of2 [(0, .ref x), (1, .int (nI p)), (2, .int way)] (by decide +kernel) (Nat.le_of_ble_eq_true rfl) rfl ?_
    refine JJ_iload_n dX11_needs_0 rfl rfl ?_
    refine JJ_callS (rest := []) (kc_isPlayer) (by omega) mi_X11_isPlayer lk_X11_115 rfl (Nat.le_of_ble_eq_true rfl) rfl rfl dX11_needs_1 ?_
    intro v1 μ2 h3
    obtain ⟨rfl, rfl⟩ := h3
    refine JJ_r1 ?_
    refine JJ_eqi (x2 := 1) (b2_t hs) ?_
    refine JJ_if_eq (tgt := 11) dX11_needs_4 (by decide) (fun c4 => absurd c4 (by decide)) (fun _ => ?_)
    refine JJ_iload_n dX11_needs_7 rfl rfl ?_
    refine JJ_if_ge (tgt := 14) dX11_needs_8 (by decide) (fun c5 => ?_) (fun c5 => ?_)
    · skip
      refine JJ_iload_n dX11_needs_14 rfl rfl ?_
      refine JJ_bipush (v := 100) dX11_needs_15 rfl ?_
      refine JJ_idiv dX11_needs_17 (by decide) ?_
      refine JJ_istore_n (lv' := [(3, .int (way / 100)), (0, .ref x), (1, .int (nI p)), (2, .int way)]) dX11_needs_18 rfl (by decide) rfl ?_
      refine JJ_iload_n dX11_needs_19 rfl rfl ?_
      refine JJ_bipush (v := 100) dX11_needs_20 rfl ?_
      refine JJ_irem dX11_needs_22 (by decide) ?_
      refine JJ_istore (lv' := [(4, .int (way - way / 100 * 100)), (3, .int (way / 100)), (0, .ref x), (1, .int (nI p)), (2, .int way)]) dX11_needs_23 (by decide) rfl ?_
      refine JJ_iload_n dX11_needs_25 rfl rfl ?_
      refine JJ_callS (rest := []) (kc_isCell) (by omega) mi_X11_isCell lk_X11_134 rfl (Nat.le_of_ble_eq_true rfl) rfl rfl dX11_needs_26 ?_
      intro v6 μ7 h8
      obtain ⟨rfl, rfl⟩ := h8
      refine JJ_r1 ?_
      refine JJ_if_eq (tgt := 40) dX11_needs_29 (by decide) (fun c9 => ?_) (fun c9 => ?_)
      · skip
        refine JJ_bipush (v := (-2)) dX11_needs_40 rfl ?_
        refine JJ_iret dX11_needs_42 rfl ?_
        exact ans_i (if_pos (fun z => b2_0.mp c9 z.2.2.1)).symm
      · skip
        refine JJ_iload dX11_needs_32 rfl ?_
        refine JJ_callS (rest := []) (kc_isCell) (by omega) mi_X11_isCell lk_X11_134 rfl (Nat.le_of_ble_eq_true rfl) rfl rfl dX11_needs_34 ?_
        intro v10 μ11 h12
        obtain ⟨rfl, rfl⟩ := h12
        refine JJ_r1 ?_
        refine JJ_if_ne (tgt := 43) dX11_needs_37 (by decide) (fun c13 => ?_) (fun c13 => ?_)
        · skip
          refine JJ_aload_n dX11_needs_43 rfl rfl ?_
          refine JJ_getr (q := x + 40) (cis := [11]) (k := 5) fa_X11_97 (by decide) (congrArg Prod.fst (hC.sh (t := 0) (k := 12) (m := 0) (by decide))) rfl (hC.rf (t := 0) (s := 5) (u := 40) (by decide)) dX11_needs_44 ?_
          refine JJ_aload_n dX11_needs_47 rfl rfl ?_
          refine JJ_getr (q := x + 40) (cis := [11]) (k := 5) fa_X11_97 (by decide) (congrArg Prod.fst (hC.sh (t := 0) (k := 12) (m := 0) (by decide))) rfl (hC.rf (t := 0) (s := 5) (u := 40) (by decide)) dX11_needs_48 ?_
          refine JJ_iload_n dX11_needs_51 rfl rfl ?_
          refine JJ_callV (rest := [.ref (x + 40)]) (congrArg Prod.fst (hC.2.2.2.1 0 (by decide)).1) rfl rfl (kc_one (c := x + 40) (p := p) hp hrt hC hX) (by omega) mi_X1_one lk_X11_119 rfl (Nat.le_of_ble_eq_true rfl) rfl rfl dX11_needs_52 ?_
          intro v14 μ15 h16
          obtain ⟨rfl, rfl⟩ := h16
          refine JJ_r1 ?_
          refine JJ_iload_n dX11_needs_55 rfl rfl ?_
          refine JJ_iload dX11_needs_56 rfl ?_
          refine JJ_callV (rest := []) (congrArg Prod.fst (hC.2.2.2.1 0 (by decide)).1) rfl rfl (kc_needs (p := p) (E := zE A) hp hrt hC hX) (by omega) mi_X1_needsOf lk_X11_166 rfl (Nat.le_of_ble_eq_true rfl) rfl rfl dX11_needs_58 ?_
          intro v17 μ18 h19
          obtain ⟨rfl, rfl⟩ := h19
          refine JJ_r1 ?_
          refine JJ_iret dX11_needs_61 rfl ?_
          have h1 := b2_n.mp c9
          have h2 := b2_n.mp c13
          have h3 : 0 ≤ way.toInt ∧ way.toInt ≤ 2499 := way_rng c5 h1
          exact ans_i (by unfold zr_needs; rw [if_neg (fun z => z ⟨hs, h3, h1, h2⟩), show i2n (nI p) = p from nI_clamp (by omega), hct.w, hct.c1 hp, hct.c2 hp])
        · skip
          refine JJ_bipush (v := (-2)) dX11_needs_40 rfl ?_
          refine JJ_iret dX11_needs_42 rfl ?_
          exact ans_i (if_pos (fun z => b2_0.mp c13 z.2.2.2)).symm
    · skip
      refine JJ_bipush (v := (-2)) dX11_needs_11 rfl ?_
      refine JJ_iret dX11_needs_13 rfl ?_
      exact ans_i (if_pos (fun z => c5 (i_le.mpr z.2.1.1))).symm
  · skip
    have e0 : zr_needs A pl way = -2 := if_pos (fun z => hs z.1)
    rw [e0]
    refine KK_of2 [(0, .ref x), (1, .int pl), (2, .int way)] (by decide +kernel) (Nat.le_of_ble_eq_true rfl) rfl ?_
    refine JJ_iload_n dX11_needs_0 rfl rfl ?_
    refine JJ_callS (rest := []) (kc_isPlayer) (by omega) mi_X11_isPlayer lk_X11_115 rfl (Nat.le_of_ble_eq_true rfl) rfl rfl dX11_needs_1 ?_
    intro v20 μ21 h22
    obtain ⟨rfl, rfl⟩ := h22
    refine JJ_r1 ?_
    refine JJ_eqi (x2 := 0) (b2_f hs) ?_
    refine JJ_if_eq (tgt := 11) dX11_needs_4 (by decide) (fun _ => ?_) (fun c23 => absurd (by decide) c23)
    refine JJ_bipush (v := (-2)) dX11_needs_11 rfl ?_
    refine JJ_iret dX11_needs_13 rfl ?_
    exact ans_i rfl
set_option maxHeartbeats 4000000 in
set_option maxRecDepth 100000 in
theorem kc_shot {pl s what : Int32} (hA : cABS x n S P M A) (hg2 : RNG2 A) (hC : CWF x S P) (hX : HSC x sc) : KK G sc yX11_shot cX11_shot 7 (some .int) 8 0 0 [.ref x, .int pl, .int s, .int what] (n, S, M, L, P) (ansI (zr_shot A pl s what) (n, S, M, L, P)) := by
  have hg : RNG A := hg2.1
  have hrl := (rul_lt hg).1
  obtain ⟨cn, hc6, hcA, hcZ⟩ := cnt_e hg
  have h6 := (rul_lt hg).2
  have hct := hA.1
  have hrt := hct.rt hg hA.2.2.1
  have hst := hA.2.2.2.1
  by_cases hs : isSk A s
  · skip
    obtain ⟨q, hq, rfl⟩ := sk_lt hg hs
    obtain ⟨a, ha, ha1, ha2, hsk⟩ := hst.at hq
    by_cases hs2 : isPl pl
    · skip
      obtain ⟨p, hp1, rfl⟩ := n_of (m := 1) (by decide) hs2
      have hp : p < 2 := by omega
      have hpq : 1 - p < 2 := by omega
      by_cases hw : 0 ≤ what.toInt ∧ what.toInt ≤ 4
      · skip
        obtain ⟨k, hk, rfl⟩ := n_of (m := 4) (by decide) hw
        rcases (by omega : k = 0 ∨ k = 1 ∨ k = 2 ∨ k = 3 ∨ k = 4) with rfl | rfl | rfl | rfl | rfl
        · skip
          have e0 : zr_shot A (nI p) (nI q) (nI 0) = zsh A p q 0 := (if_neg (fun z => z ⟨hs2, hs, by decide⟩)).trans (by rw [show i2n (nI p) = p from nI_clamp (by omega), show i2n (nI q) = q from nI_clamp (by omega)]; rfl)
          rw [e0]
          refine KK_of2 [(0, .ref x), (1, .int (nI p)), (2, .int (nI q)), (3, .int 0)] (by decide +kernel) (Nat.le_of_ble_eq_true rfl) rfl ?_
          refine JJ_aload_n dX11_shot_0 rfl rfl ?_
          refine JJ_iload_n dX11_shot_1 rfl rfl ?_
          refine JJ_callV (rest := []) (congrArg Prod.fst (hC.sh (t := 0) (k := 12) (m := 0) (by decide))) rfl rfl (kc_strokeAt hq ha hst hg hC hX) (by omega) mi_X11_strokeAt lk_X11_129 rfl (Nat.le_of_ble_eq_true rfl) rfl rfl dX11_shot_2 ?_
          intro v1 μ2 h3
          obtain ⟨rfl, rfl⟩ := h3
          refine JJ_r1 ?_
          refine JJ_astore (lv' := [(4, .ref a), (0, .ref x), (1, .int (nI p)), (2, .int (nI q)), (3, .int 0)]) dX11_shot_5 (by decide) rfl ?_
          refine JJ_iload_n dX11_shot_7 rfl rfl ?_
          refine JJ_callS (rest := []) (kc_isPlayer) (by omega) mi_X11_isPlayer lk_X11_115 rfl (Nat.le_of_ble_eq_true rfl) rfl rfl dX11_shot_8 ?_
          intro v4 μ5 h6
          obtain ⟨rfl, rfl⟩ := h6
          refine JJ_r1 ?_
          refine JJ_eqi (x2 := 1) (b2_t hs2) ?_
          refine JJ_if_eq (tgt := 19) dX11_shot_11 (by decide) (fun c7 => absurd c7 (by decide)) (fun _ => ?_)
          refine JJ_aload dX11_shot_14 rfl ?_
          refine JJ_ifnonnullR (tgt := 22) dX11_shot_16 (by decide) ?_
          refine JJ_aload_n dX11_shot_22 rfl rfl ?_
          refine JJ_getr (q := x + 40) (cis := [11]) (k := 5) fa_X11_97 (by decide) (congrArg Prod.fst (hC.sh (t := 0) (k := 12) (m := 0) (by decide))) rfl (hC.rf (t := 0) (s := 5) (u := 40) (by decide)) dX11_shot_23 ?_
          refine JJ_iload_n dX11_shot_26 rfl rfl ?_
          refine JJ_callV (rest := []) (congrArg Prod.fst (hC.2.2.2.1 0 (by decide)).1) rfl rfl (kc_one (c := x + 40) (p := p) hp hrt hC hX) (by omega) mi_X1_one lk_X11_119 rfl (Nat.le_of_ble_eq_true rfl) rfl rfl dX11_shot_27 ?_
          intro v8 μ9 h10
          obtain ⟨rfl, rfl⟩ := h10
          refine JJ_r1 ?_
          refine JJ_astore (lv' := [(5, .ref (x + 40 + 1 + p)), (4, .ref a), (0, .ref x), (1, .int (nI p)), (2, .int (nI q)), (3, .int 0)]) dX11_shot_30 (by decide) rfl ?_
          refine JJ_aload_n dX11_shot_32 rfl rfl ?_
          refine JJ_getr (q := x + 40) (cis := [11]) (k := 5) fa_X11_97 (by decide) (congrArg Prod.fst (hC.sh (t := 0) (k := 12) (m := 0) (by decide))) rfl (hC.rf (t := 0) (s := 5) (u := 40) (by decide)) dX11_shot_33 ?_
          refine JJ_iconst (v := 1) dX11_shot_36 rfl ?_
          refine JJ_iload_n dX11_shot_37 rfl rfl ?_
          refine JJ_isub dX11_shot_38 ?_
          refine JJ_eqi (x2 := nI (1 - p)) (e_sub1 hp) ?_
          refine JJ_callV (rest := []) (congrArg Prod.fst (hC.2.2.2.1 0 (by decide)).1) rfl rfl (kc_one (c := x + 40) (p := (1 - p)) hpq hrt hC hX) (by omega) mi_X1_one lk_X11_119 rfl (Nat.le_of_ble_eq_true rfl) rfl rfl dX11_shot_39 ?_
          intro v11 μ12 h13
          obtain ⟨rfl, rfl⟩ := h13
          refine JJ_r1 ?_
          refine JJ_astore (lv' := [(6, .ref (x + 40 + 1 + (1 - p))), (5, .ref (x + 40 + 1 + p)), (4, .ref a), (0, .ref x), (1, .int (nI p)), (2, .int (nI q)), (3, .int 0)]) dX11_shot_42 (by decide) rfl ?_
          refine JJ_iload_n dX11_shot_44 rfl rfl ?_
          refine JJ_tabIn (tgt := 80) (0) dX11_shot_45 rfl (by decide) rfl (by decide) ?_
          refine JJ_aload dX11_shot_80 rfl ?_
          refine JJ_aload dX11_shot_82 rfl ?_
          refine JJ_geti (v := M (x + 40 + 1 + p) 0) (cis := [6]) (k := 0) fa_X11_150 (by decide) (hrt.pl hC (p := p) (by omega)) rfl (hX.1 _ _ (by omega) (by omega) (by omega)) rfl dX11_shot_84 ?_
          refine ju_X11_153 hsk rfl (fun k => hX.2.1 _ _ ha1) (by omega) (Nat.le_of_ble_eq_true rfl) dX11_shot_87 ?_
          refine JJ_iret dX11_shot_90 rfl ?_
          exact ans_i (by rw [hct.c0 hp]; rfl)
        · skip
          have e0 : zr_shot A (nI p) (nI q) (nI 1) = zsh A p q 1 := (if_neg (fun z => z ⟨hs2, hs, by decide⟩)).trans (by rw [show i2n (nI p) = p from nI_clamp (by omega), show i2n (nI q) = q from nI_clamp (by omega)]; rfl)
          rw [e0]
          refine KK_of2 [(0, .ref x), (1, .int (nI p)), (2, .int (nI q)), (3, .int 1)] (by decide +kernel) (Nat.le_of_ble_eq_true rfl) rfl ?_
          refine JJ_aload_n dX11_shot_0 rfl rfl ?_
          refine JJ_iload_n dX11_shot_1 rfl rfl ?_
          refine JJ_callV (rest := []) (congrArg Prod.fst (hC.sh (t := 0) (k := 12) (m := 0) (by decide))) rfl rfl (kc_strokeAt hq ha hst hg hC hX) (by omega) mi_X11_strokeAt lk_X11_129 rfl (Nat.le_of_ble_eq_true rfl) rfl rfl dX11_shot_2 ?_
          intro v14 μ15 h16
          obtain ⟨rfl, rfl⟩ := h16
          refine JJ_r1 ?_
          refine JJ_astore (lv' := [(4, .ref a), (0, .ref x), (1, .int (nI p)), (2, .int (nI q)), (3, .int 1)]) dX11_shot_5 (by decide) rfl ?_
          refine JJ_iload_n dX11_shot_7 rfl rfl ?_
          refine JJ_callS (rest := []) (kc_isPlayer) (by omega) mi_X11_isPlayer lk_X11_115 rfl (Nat.le_of_ble_eq_true rfl) rfl rfl dX11_shot_8 ?_
          intro v17 μ18 h19
          obtain ⟨rfl, rfl⟩ := h19
          refine JJ_r1 ?_
          refine JJ_eqi (x2 := 1) (b2_t hs2) ?_
          refine JJ_if_eq (tgt := 19) dX11_shot_11 (by decide) (fun c20 => absurd c20 (by decide)) (fun _ => ?_)
          refine JJ_aload dX11_shot_14 rfl ?_
          refine JJ_ifnonnullR (tgt := 22) dX11_shot_16 (by decide) ?_
          refine JJ_aload_n dX11_shot_22 rfl rfl ?_
          refine JJ_getr (q := x + 40) (cis := [11]) (k := 5) fa_X11_97 (by decide) (congrArg Prod.fst (hC.sh (t := 0) (k := 12) (m := 0) (by decide))) rfl (hC.rf (t := 0) (s := 5) (u := 40) (by decide)) dX11_shot_23 ?_
          refine JJ_iload_n dX11_shot_26 rfl rfl ?_
          refine JJ_callV (rest := []) (congrArg Prod.fst (hC.2.2.2.1 0 (by decide)).1) rfl rfl (kc_one (c := x + 40) (p := p) hp hrt hC hX) (by omega) mi_X1_one lk_X11_119 rfl (Nat.le_of_ble_eq_true rfl) rfl rfl dX11_shot_27 ?_
          intro v21 μ22 h23
          obtain ⟨rfl, rfl⟩ := h23
          refine JJ_r1 ?_
          refine JJ_astore (lv' := [(5, .ref (x + 40 + 1 + p)), (4, .ref a), (0, .ref x), (1, .int (nI p)), (2, .int (nI q)), (3, .int 1)]) dX11_shot_30 (by decide) rfl ?_
          refine JJ_aload_n dX11_shot_32 rfl rfl ?_
          refine JJ_getr (q := x + 40) (cis := [11]) (k := 5) fa_X11_97 (by decide) (congrArg Prod.fst (hC.sh (t := 0) (k := 12) (m := 0) (by decide))) rfl (hC.rf (t := 0) (s := 5) (u := 40) (by decide)) dX11_shot_33 ?_
          refine JJ_iconst (v := 1) dX11_shot_36 rfl ?_
          refine JJ_iload_n dX11_shot_37 rfl rfl ?_
          refine JJ_isub dX11_shot_38 ?_
          refine JJ_eqi (x2 := nI (1 - p)) (e_sub1 hp) ?_
          refine JJ_callV (rest := []) (congrArg Prod.fst (hC.2.2.2.1 0 (by decide)).1) rfl rfl (kc_one (c := x + 40) (p := (1 - p)) hpq hrt hC hX) (by omega) mi_X1_one lk_X11_119 rfl (Nat.le_of_ble_eq_true rfl) rfl rfl dX11_shot_39 ?_
          intro v24 μ25 h26
          obtain ⟨rfl, rfl⟩ := h26
          refine JJ_r1 ?_
          refine JJ_astore (lv' := [(6, .ref (x + 40 + 1 + (1 - p))), (5, .ref (x + 40 + 1 + p)), (4, .ref a), (0, .ref x), (1, .int (nI p)), (2, .int (nI q)), (3, .int 1)]) dX11_shot_42 (by decide) rfl ?_
          refine JJ_iload_n dX11_shot_44 rfl rfl ?_
          refine JJ_tabIn (tgt := 91) (1) dX11_shot_45 rfl (by decide) rfl (by decide) ?_
          refine JJ_aload_n dX11_shot_91 rfl rfl ?_
          refine JJ_getr (q := x + 40) (cis := [11]) (k := 5) fa_X11_97 (by decide) (congrArg Prod.fst (hC.sh (t := 0) (k := 12) (m := 0) (by decide))) rfl (hC.rf (t := 0) (s := 5) (u := 40) (by decide)) dX11_shot_92 ?_
          refine JJ_aload dX11_shot_95 rfl ?_
          refine JJ_aload dX11_shot_97 rfl ?_
          refine JJ_callV (rest := []) (congrArg Prod.fst (hC.2.2.2.1 0 (by decide)).1) rfl rfl (kc_tenths (p := p) (E := zE A) hp hsk (fun k => hX.2.1 _ _ ha1) hrt hC hX) (by omega) mi_X1_tenthsOf lk_X11_156 rfl (Nat.le_of_ble_eq_true rfl) rfl rfl dX11_shot_99 ?_
          intro v27 μ28 h29
          obtain ⟨rfl, rfl⟩ := h29
          refine JJ_r1 ?_
          refine JJ_iret dX11_shot_102 rfl ?_
          exact ans_i (by rw [hct.w, hct.c1 hp, hct.c2 hp, hct.c0 hp]; rfl)
        · skip
          have e0 : zr_shot A (nI p) (nI q) (nI 2) = zsh A p q 2 := (if_neg (fun z => z ⟨hs2, hs, by decide⟩)).trans (by rw [show i2n (nI p) = p from nI_clamp (by omega), show i2n (nI q) = q from nI_clamp (by omega)]; rfl)
          rw [e0]
          refine KK_of2 [(0, .ref x), (1, .int (nI p)), (2, .int (nI q)), (3, .int 2)] (by decide +kernel) (Nat.le_of_ble_eq_true rfl) rfl ?_
          refine JJ_aload_n dX11_shot_0 rfl rfl ?_
          refine JJ_iload_n dX11_shot_1 rfl rfl ?_
          refine JJ_callV (rest := []) (congrArg Prod.fst (hC.sh (t := 0) (k := 12) (m := 0) (by decide))) rfl rfl (kc_strokeAt hq ha hst hg hC hX) (by omega) mi_X11_strokeAt lk_X11_129 rfl (Nat.le_of_ble_eq_true rfl) rfl rfl dX11_shot_2 ?_
          intro v30 μ31 h32
          obtain ⟨rfl, rfl⟩ := h32
          refine JJ_r1 ?_
          refine JJ_astore (lv' := [(4, .ref a), (0, .ref x), (1, .int (nI p)), (2, .int (nI q)), (3, .int 2)]) dX11_shot_5 (by decide) rfl ?_
          refine JJ_iload_n dX11_shot_7 rfl rfl ?_
          refine JJ_callS (rest := []) (kc_isPlayer) (by omega) mi_X11_isPlayer lk_X11_115 rfl (Nat.le_of_ble_eq_true rfl) rfl rfl dX11_shot_8 ?_
          intro v33 μ34 h35
          obtain ⟨rfl, rfl⟩ := h35
          refine JJ_r1 ?_
          refine JJ_eqi (x2 := 1) (b2_t hs2) ?_
          refine JJ_if_eq (tgt := 19) dX11_shot_11 (by decide) (fun c36 => absurd c36 (by decide)) (fun _ => ?_)
          refine JJ_aload dX11_shot_14 rfl ?_
          refine JJ_ifnonnullR (tgt := 22) dX11_shot_16 (by decide) ?_
          refine JJ_aload_n dX11_shot_22 rfl rfl ?_
          refine JJ_getr (q := x + 40) (cis := [11]) (k := 5) fa_X11_97 (by decide) (congrArg Prod.fst (hC.sh (t := 0) (k := 12) (m := 0) (by decide))) rfl (hC.rf (t := 0) (s := 5) (u := 40) (by decide)) dX11_shot_23 ?_
          refine JJ_iload_n dX11_shot_26 rfl rfl ?_
          refine JJ_callV (rest := []) (congrArg Prod.fst (hC.2.2.2.1 0 (by decide)).1) rfl rfl (kc_one (c := x + 40) (p := p) hp hrt hC hX) (by omega) mi_X1_one lk_X11_119 rfl (Nat.le_of_ble_eq_true rfl) rfl rfl dX11_shot_27 ?_
          intro v37 μ38 h39
          obtain ⟨rfl, rfl⟩ := h39
          refine JJ_r1 ?_
          refine JJ_astore (lv' := [(5, .ref (x + 40 + 1 + p)), (4, .ref a), (0, .ref x), (1, .int (nI p)), (2, .int (nI q)), (3, .int 2)]) dX11_shot_30 (by decide) rfl ?_
          refine JJ_aload_n dX11_shot_32 rfl rfl ?_
          refine JJ_getr (q := x + 40) (cis := [11]) (k := 5) fa_X11_97 (by decide) (congrArg Prod.fst (hC.sh (t := 0) (k := 12) (m := 0) (by decide))) rfl (hC.rf (t := 0) (s := 5) (u := 40) (by decide)) dX11_shot_33 ?_
          refine JJ_iconst (v := 1) dX11_shot_36 rfl ?_
          refine JJ_iload_n dX11_shot_37 rfl rfl ?_
          refine JJ_isub dX11_shot_38 ?_
          refine JJ_eqi (x2 := nI (1 - p)) (e_sub1 hp) ?_
          refine JJ_callV (rest := []) (congrArg Prod.fst (hC.2.2.2.1 0 (by decide)).1) rfl rfl (kc_one (c := x + 40) (p := (1 - p)) hpq hrt hC hX) (by omega) mi_X1_one lk_X11_119 rfl (Nat.le_of_ble_eq_true rfl) rfl rfl dX11_shot_39 ?_
          intro v40 μ41 h42
          obtain ⟨rfl, rfl⟩ := h42
          refine JJ_r1 ?_
          refine JJ_astore (lv' := [(6, .ref (x + 40 + 1 + (1 - p))), (5, .ref (x + 40 + 1 + p)), (4, .ref a), (0, .ref x), (1, .int (nI p)), (2, .int (nI q)), (3, .int 2)]) dX11_shot_42 (by decide) rfl ?_
          refine JJ_iload_n dX11_shot_44 rfl rfl ?_
          refine JJ_tabIn (tgt := 103) (2) dX11_shot_45 rfl (by decide) rfl (by decide) ?_
          refine JJ_aload_n dX11_shot_103 rfl rfl ?_
          refine JJ_getr (q := x + 40) (cis := [11]) (k := 5) fa_X11_97 (by decide) (congrArg Prod.fst (hC.sh (t := 0) (k := 12) (m := 0) (by decide))) rfl (hC.rf (t := 0) (s := 5) (u := 40) (by decide)) dX11_shot_104 ?_
          refine JJ_aload dX11_shot_107 rfl ?_
          refine JJ_aload dX11_shot_109 rfl ?_
          refine JJ_callV (rest := []) (congrArg Prod.fst (hC.2.2.2.1 0 (by decide)).1) rfl rfl (kc_slips (p := p) (E := zE A) hp hsk (fun k => hX.2.1 _ _ ha1) hrt hC hX) (by omega) mi_X1_slipsOf lk_X11_160 rfl (Nat.le_of_ble_eq_true rfl) rfl rfl dX11_shot_111 ?_
          intro v43 μ44 h45
          obtain ⟨rfl, rfl⟩ := h45
          refine JJ_r1 ?_
          refine JJ_iret dX11_shot_114 rfl ?_
          exact ans_i (by rw [hct.w, hct.c1 hp, hct.c2 hp, hct.c0 hp]; rfl)
        · skip
          have e0 : zr_shot A (nI p) (nI q) (nI 3) = zsh A p q 3 := (if_neg (fun z => z ⟨hs2, hs, by decide⟩)).trans (by rw [show i2n (nI p) = p from nI_clamp (by omega), show i2n (nI q) = q from nI_clamp (by omega)]; rfl)
          rw [e0]
          refine KK_of2 [(0, .ref x), (1, .int (nI p)), (2, .int (nI q)), (3, .int 3)] (by decide +kernel) (Nat.le_of_ble_eq_true rfl) rfl ?_
          refine JJ_aload_n dX11_shot_0 rfl rfl ?_
          refine JJ_iload_n dX11_shot_1 rfl rfl ?_
          refine JJ_callV (rest := []) (congrArg Prod.fst (hC.sh (t := 0) (k := 12) (m := 0) (by decide))) rfl rfl (kc_strokeAt hq ha hst hg hC hX) (by omega) mi_X11_strokeAt lk_X11_129 rfl (Nat.le_of_ble_eq_true rfl) rfl rfl dX11_shot_2 ?_
          intro v46 μ47 h48
          obtain ⟨rfl, rfl⟩ := h48
          refine JJ_r1 ?_
          refine JJ_astore (lv' := [(4, .ref a), (0, .ref x), (1, .int (nI p)), (2, .int (nI q)), (3, .int 3)]) dX11_shot_5 (by decide) rfl ?_
          refine JJ_iload_n dX11_shot_7 rfl rfl ?_
          refine JJ_callS (rest := []) (kc_isPlayer) (by omega) mi_X11_isPlayer lk_X11_115 rfl (Nat.le_of_ble_eq_true rfl) rfl rfl dX11_shot_8 ?_
          intro v49 μ50 h51
          obtain ⟨rfl, rfl⟩ := h51
          refine JJ_r1 ?_
          refine JJ_eqi (x2 := 1) (b2_t hs2) ?_
          refine JJ_if_eq (tgt := 19) dX11_shot_11 (by decide) (fun c52 => absurd c52 (by decide)) (fun _ => ?_)
          refine JJ_aload dX11_shot_14 rfl ?_
          refine JJ_ifnonnullR (tgt := 22) dX11_shot_16 (by decide) ?_
          refine JJ_aload_n dX11_shot_22 rfl rfl ?_
          refine JJ_getr (q := x + 40) (cis := [11]) (k := 5) fa_X11_97 (by decide) (congrArg Prod.fst (hC.sh (t := 0) (k := 12) (m := 0) (by decide))) rfl (hC.rf (t := 0) (s := 5) (u := 40) (by decide)) dX11_shot_23 ?_
          refine JJ_iload_n dX11_shot_26 rfl rfl ?_
          refine JJ_callV (rest := []) (congrArg Prod.fst (hC.2.2.2.1 0 (by decide)).1) rfl rfl (kc_one (c := x + 40) (p := p) hp hrt hC hX) (by omega) mi_X1_one lk_X11_119 rfl (Nat.le_of_ble_eq_true rfl) rfl rfl dX11_shot_27 ?_
          intro v53 μ54 h55
          obtain ⟨rfl, rfl⟩ := h55
          refine JJ_r1 ?_
          refine JJ_astore (lv' := [(5, .ref (x + 40 + 1 + p)), (4, .ref a), (0, .ref x), (1, .int (nI p)), (2, .int (nI q)), (3, .int 3)]) dX11_shot_30 (by decide) rfl ?_
          refine JJ_aload_n dX11_shot_32 rfl rfl ?_
          refine JJ_getr (q := x + 40) (cis := [11]) (k := 5) fa_X11_97 (by decide) (congrArg Prod.fst (hC.sh (t := 0) (k := 12) (m := 0) (by decide))) rfl (hC.rf (t := 0) (s := 5) (u := 40) (by decide)) dX11_shot_33 ?_
          refine JJ_iconst (v := 1) dX11_shot_36 rfl ?_
          refine JJ_iload_n dX11_shot_37 rfl rfl ?_
          refine JJ_isub dX11_shot_38 ?_
          refine JJ_eqi (x2 := nI (1 - p)) (e_sub1 hp) ?_
          refine JJ_callV (rest := []) (congrArg Prod.fst (hC.2.2.2.1 0 (by decide)).1) rfl rfl (kc_one (c := x + 40) (p := (1 - p)) hpq hrt hC hX) (by omega) mi_X1_one lk_X11_119 rfl (Nat.le_of_ble_eq_true rfl) rfl rfl dX11_shot_39 ?_
          intro v56 μ57 h58
          obtain ⟨rfl, rfl⟩ := h58
          refine JJ_r1 ?_
          refine JJ_astore (lv' := [(6, .ref (x + 40 + 1 + (1 - p))), (5, .ref (x + 40 + 1 + p)), (4, .ref a), (0, .ref x), (1, .int (nI p)), (2, .int (nI q)), (3, .int 3)]) dX11_shot_42 (by decide) rfl ?_
          refine JJ_iload_n dX11_shot_44 rfl rfl ?_
          refine JJ_tabIn (tgt := 115) (3) dX11_shot_45 rfl (by decide) rfl (by decide) ?_
          refine JJ_aload dX11_shot_115 rfl ?_
          refine ju_X11_163 hsk rfl (fun k => hX.2.1 _ _ ha1) (by omega) (Nat.le_of_ble_eq_true rfl) dX11_shot_117 ?_
          refine JJ_iret dX11_shot_120 rfl ?_
          exact ans_i rfl
        · skip
          have e0 : zr_shot A (nI p) (nI q) (nI 4) = zsh A p q 4 := (if_neg (fun z => z ⟨hs2, hs, by decide⟩)).trans (by rw [show i2n (nI p) = p from nI_clamp (by omega), show i2n (nI q) = q from nI_clamp (by omega)]; rfl)
          rw [e0]
          refine KK_of2 [(0, .ref x), (1, .int (nI p)), (2, .int (nI q)), (3, .int 4)] (by decide +kernel) (Nat.le_of_ble_eq_true rfl) rfl ?_
          refine JJ_aload_n dX11_shot_0 rfl rfl ?_
          refine JJ_iload_n dX11_shot_1 rfl rfl ?_
          refine JJ_callV (rest := []) (congrArg Prod.fst (hC.sh (t := 0) (k := 12) (m := 0) (by decide))) rfl rfl (kc_strokeAt hq ha hst hg hC hX) (by omega) mi_X11_strokeAt lk_X11_129 rfl (Nat.le_of_ble_eq_true rfl) rfl rfl dX11_shot_2 ?_
          intro v59 μ60 h61
          obtain ⟨rfl, rfl⟩ := h61
          refine JJ_r1 ?_
          refine JJ_astore (lv' := [(4, .ref a), (0, .ref x), (1, .int (nI p)), (2, .int (nI q)), (3, .int 4)]) dX11_shot_5 (by decide) rfl ?_
          refine JJ_iload_n dX11_shot_7 rfl rfl ?_
          refine JJ_callS (rest := []) (kc_isPlayer) (by omega) mi_X11_isPlayer lk_X11_115 rfl (Nat.le_of_ble_eq_true rfl) rfl rfl dX11_shot_8 ?_
          intro v62 μ63 h64
          obtain ⟨rfl, rfl⟩ := h64
          refine JJ_r1 ?_
          refine JJ_eqi (x2 := 1) (b2_t hs2) ?_
          refine JJ_if_eq (tgt := 19) dX11_shot_11 (by decide) (fun c65 => absurd c65 (by decide)) (fun _ => ?_)
          refine JJ_aload dX11_shot_14 rfl ?_
          refine JJ_ifnonnullR (tgt := 22) dX11_shot_16 (by decide) ?_
          refine JJ_aload_n dX11_shot_22 rfl rfl ?_
          refine JJ_getr (q := x + 40) (cis := [11]) (k := 5) fa_X11_97 (by decide) (congrArg Prod.fst (hC.sh (t := 0) (k := 12) (m := 0) (by decide))) rfl (hC.rf (t := 0) (s := 5) (u := 40) (by decide)) dX11_shot_23 ?_
          refine JJ_iload_n dX11_shot_26 rfl rfl ?_
          refine JJ_callV (rest := []) (congrArg Prod.fst (hC.2.2.2.1 0 (by decide)).1) rfl rfl (kc_one (c := x + 40) (p := p) hp hrt hC hX) (by omega) mi_X1_one lk_X11_119 rfl (Nat.le_of_ble_eq_true rfl) rfl rfl dX11_shot_27 ?_
          intro v66 μ67 h68
          obtain ⟨rfl, rfl⟩ := h68
          refine JJ_r1 ?_
          refine JJ_astore (lv' := [(5, .ref (x + 40 + 1 + p)), (4, .ref a), (0, .ref x), (1, .int (nI p)), (2, .int (nI q)), (3, .int 4)]) dX11_shot_30 (by decide) rfl ?_
          refine JJ_aload_n dX11_shot_32 rfl rfl ?_
          refine JJ_getr (q := x + 40) (cis := [11]) (k := 5) fa_X11_97 (by decide) (congrArg Prod.fst (hC.sh (t := 0) (k := 12) (m := 0) (by decide))) rfl (hC.rf (t := 0) (s := 5) (u := 40) (by decide)) dX11_shot_33 ?_
          refine JJ_iconst (v := 1) dX11_shot_36 rfl ?_
          refine JJ_iload_n dX11_shot_37 rfl rfl ?_
          refine JJ_isub dX11_shot_38 ?_
          refine JJ_eqi (x2 := nI (1 - p)) (e_sub1 hp) ?_
          refine JJ_callV (rest := []) (congrArg Prod.fst (hC.2.2.2.1 0 (by decide)).1) rfl rfl (kc_one (c := x + 40) (p := (1 - p)) hpq hrt hC hX) (by omega) mi_X1_one lk_X11_119 rfl (Nat.le_of_ble_eq_true rfl) rfl rfl dX11_shot_39 ?_
          intro v69 μ70 h71
          obtain ⟨rfl, rfl⟩ := h71
          refine JJ_r1 ?_
          refine JJ_astore (lv' := [(6, .ref (x + 40 + 1 + (1 - p))), (5, .ref (x + 40 + 1 + p)), (4, .ref a), (0, .ref x), (1, .int (nI p)), (2, .int (nI q)), (3, .int 4)]) dX11_shot_42 (by decide) rfl ?_
          refine JJ_iload_n dX11_shot_44 rfl rfl ?_
          refine JJ_tabIn (tgt := 121) (4) dX11_shot_45 rfl (by decide) rfl (by decide) ?_
          refine JJ_aload_n dX11_shot_121 rfl rfl ?_
          refine JJ_getr (q := x + 40) (cis := [11]) (k := 5) fa_X11_97 (by decide) (congrArg Prod.fst (hC.sh (t := 0) (k := 12) (m := 0) (by decide))) rfl (hC.rf (t := 0) (s := 5) (u := 40) (by decide)) dX11_shot_122 ?_
          refine JJ_aload dX11_shot_125 rfl ?_
          refine JJ_aload dX11_shot_127 rfl ?_
          refine JJ_geti (v := M (x + 40 + 1 + (1 - p)) 0) (cis := [6]) (k := 0) fa_X11_150 (by decide) (hrt.pl hC (p := (1 - p)) (by omega)) rfl (hX.1 _ _ (by omega) (by omega) (by omega)) rfl dX11_shot_129 ?_
          refine JJ_aload dX11_shot_132 rfl ?_
          refine JJ_aload dX11_shot_134 rfl ?_
          refine JJ_geti (v := M (x + 40 + 1 + p) 0) (cis := [6]) (k := 0) fa_X11_150 (by decide) (hrt.pl hC (p := p) (by omega)) rfl (hX.1 _ _ (by omega) (by omega) (by omega)) rfl dX11_shot_136 ?_
          refine ju_X11_153 hsk rfl (fun k => hX.2.1 _ _ ha1) (by omega) (Nat.le_of_ble_eq_true rfl) dX11_shot_139 ?_
          refine JJ_callV (rest := []) (congrArg Prod.fst (hC.2.2.2.1 0 (by decide)).1) rfl rfl (kc_needs (p := 1 - p) (E := zE A) hpq hrt hC hX) (by omega) mi_X1_needsOf lk_X11_166 rfl (Nat.le_of_ble_eq_true rfl) rfl rfl dX11_shot_142 ?_
          intro v72 μ73 h74
          obtain ⟨rfl, rfl⟩ := h74
          refine JJ_r1 ?_
          refine JJ_iret dX11_shot_145 rfl ?_
          exact ans_i (by rw [hct.w, hct.c1 hpq, hct.c2 hpq, hct.c0 hpq, hct.c0 hp]; rfl)
      · skip
        have e0 : zr_shot A (nI p) (nI q) what = -2 := if_pos (fun z => hw z.2.2)
        rw [e0]
        refine KK_of2 [(0, .ref x), (1, .int (nI p)), (2, .int (nI q)), (3, .int what)] (by decide +kernel) (Nat.le_of_ble_eq_true rfl) rfl ?_
        refine JJ_aload_n dX11_shot_0 rfl rfl ?_
        refine JJ_iload_n dX11_shot_1 rfl rfl ?_
        refine JJ_callV (rest := []) (congrArg Prod.fst (hC.sh (t := 0) (k := 12) (m := 0) (by decide))) rfl rfl (kc_strokeAt hq ha hst hg hC hX) (by omega) mi_X11_strokeAt lk_X11_129 rfl (Nat.le_of_ble_eq_true rfl) rfl rfl dX11_shot_2 ?_
        intro v75 μ76 h77
        obtain ⟨rfl, rfl⟩ := h77
        refine JJ_r1 ?_
        refine JJ_astore (lv' := [(4, .ref a), (0, .ref x), (1, .int (nI p)), (2, .int (nI q)), (3, .int what)]) dX11_shot_5 (by decide) rfl ?_
        refine JJ_iload_n dX11_shot_7 rfl rfl ?_
        refine JJ_callS (rest := []) (kc_isPlayer) (by omega) mi_X11_isPlayer lk_X11_115 rfl (Nat.le_of_ble_eq_true rfl) rfl rfl dX11_shot_8 ?_
        intro v78 μ79 h80
        obtain ⟨rfl, rfl⟩ := h80
        refine JJ_r1 ?_
        refine JJ_eqi (x2 := 1) (b2_t hs2) ?_
        refine JJ_if_eq (tgt := 19) dX11_shot_11 (by decide) (fun c81 => absurd c81 (by decide)) (fun _ => ?_)
        refine JJ_aload dX11_shot_14 rfl ?_
        refine JJ_ifnonnullR (tgt := 22) dX11_shot_16 (by decide) ?_
        refine JJ_aload_n dX11_shot_22 rfl rfl ?_
        refine JJ_getr (q := x + 40) (cis := [11]) (k := 5) fa_X11_97 (by decide) (congrArg Prod.fst (hC.sh (t := 0) (k := 12) (m := 0) (by decide))) rfl (hC.rf (t := 0) (s := 5) (u := 40) (by decide)) dX11_shot_23 ?_
        refine JJ_iload_n dX11_shot_26 rfl rfl ?_
        refine JJ_callV (rest := []) (congrArg Prod.fst (hC.2.2.2.1 0 (by decide)).1) rfl rfl (kc_one (c := x + 40) (p := p) hp hrt hC hX) (by omega) mi_X1_one lk_X11_119 rfl (Nat.le_of_ble_eq_true rfl) rfl rfl dX11_shot_27 ?_
        intro v82 μ83 h84
        obtain ⟨rfl, rfl⟩ := h84
        refine JJ_r1 ?_
        refine JJ_astore (lv' := [(5, .ref (x + 40 + 1 + p)), (4, .ref a), (0, .ref x), (1, .int (nI p)), (2, .int (nI q)), (3, .int what)]) dX11_shot_30 (by decide) rfl ?_
        refine JJ_aload_n dX11_shot_32 rfl rfl ?_
        refine JJ_getr (q := x + 40) (cis := [11]) (k := 5) fa_X11_97 (by decide) (congrArg Prod.fst (hC.sh (t := 0) (k := 12) (m := 0) (by decide))) rfl (hC.rf (t := 0) (s := 5) (u := 40) (by decide)) dX11_shot_33 ?_
        refine JJ_iconst (v := 1) dX11_shot_36 rfl ?_
        refine JJ_iload_n dX11_shot_37 rfl rfl ?_
        refine JJ_isub dX11_shot_38 ?_
        refine JJ_eqi (x2 := nI (1 - p)) (e_sub1 hp) ?_
        refine JJ_callV (rest := []) (congrArg Prod.fst (hC.2.2.2.1 0 (by decide)).1) rfl rfl (kc_one (c := x + 40) (p := (1 - p)) hpq hrt hC hX) (by omega) mi_X1_one lk_X11_119 rfl (Nat.le_of_ble_eq_true rfl) rfl rfl dX11_shot_39 ?_
        intro v85 μ86 h87
        obtain ⟨rfl, rfl⟩ := h87
        refine JJ_r1 ?_
        refine JJ_astore (lv' := [(6, .ref (x + 40 + 1 + (1 - p))), (5, .ref (x + 40 + 1 + p)), (4, .ref a), (0, .ref x), (1, .int (nI p)), (2, .int (nI q)), (3, .int what)]) dX11_shot_42 (by decide) rfl ?_
        refine JJ_iload_n dX11_shot_44 rfl rfl ?_
        refine JJ_tabOut (tgt := 146) dX11_shot_45 (by omega) (by decide) ?_
        refine JJ_bipush (v := (-2)) dX11_shot_146 rfl ?_
        refine JJ_iret dX11_shot_148 rfl ?_
        exact ans_i rfl
    · skip
      have e0 : zr_shot A pl (nI q) what = -2 := if_pos (fun z => hs2 z.1)
      rw [e0]
      refine KK_of2 [(0, .ref x), (1, .int pl), (2, .int (nI q)), (3, .int what)] (by decide +kernel) (Nat.le_of_ble_eq_true rfl) rfl ?_
      refine JJ_aload_n dX11_shot_0 rfl rfl ?_
      refine JJ_iload_n dX11_shot_1 rfl rfl ?_
      refine JJ_callV (rest := []) (congrArg Prod.fst (hC.sh (t := 0) (k := 12) (m := 0) (by decide))) rfl rfl (kc_strokeAt hq ha hst hg hC hX) (by omega) mi_X11_strokeAt lk_X11_129 rfl (Nat.le_of_ble_eq_true rfl) rfl rfl dX11_shot_2 ?_
      intro v88 μ89 h90
      obtain ⟨rfl, rfl⟩ := h90
      refine JJ_r1 ?_
      refine JJ_astore (lv' := [(4, .ref a), (0, .ref x), (1, .int pl), (2, .int (nI q)), (3, .int what)]) dX11_shot_5 (by decide) rfl ?_
      refine JJ_iload_n dX11_shot_7 rfl rfl ?_
      refine JJ_callS (rest := []) (kc_isPlayer) (by omega) mi_X11_isPlayer lk_X11_115 rfl (Nat.le_of_ble_eq_true rfl) rfl rfl dX11_shot_8 ?_
      intro v91 μ92 h93
      obtain ⟨rfl, rfl⟩ := h93
      refine JJ_r1 ?_
      refine JJ_eqi (x2 := 0) (b2_f hs2) ?_
      refine JJ_if_eq (tgt := 19) dX11_shot_11 (by decide) (fun _ => ?_) (fun c94 => absurd (by decide) c94)
      refine JJ_bipush (v := (-2)) dX11_shot_19 rfl ?_
      refine JJ_iret dX11_shot_21 rfl ?_
      exact ans_i rfl
  · skip
    have e0 : zr_shot A pl s what = -2 := if_pos (fun z => hs z.2.1)
    rw [e0]
    refine KK_of2 [(0, .ref x), (1, .int pl), (2, .int s), (3, .int what)] (by decide +kernel) (Nat.le_of_ble_eq_true rfl) rfl ?_
    refine JJ_aload_n dX11_shot_0 rfl rfl ?_
    refine JJ_iload_n dX11_shot_1 rfl rfl ?_
    refine JJ_callV (rest := []) (congrArg Prod.fst (hC.sh (t := 0) (k := 12) (m := 0) (by decide))) rfl rfl (kc_strokeNo hs hst hg hC hX) (by omega) mi_X11_strokeAt lk_X11_129 rfl (Nat.le_of_ble_eq_true rfl) rfl rfl dX11_shot_2 ?_
    intro v95 μ96 h97
    obtain ⟨rfl, rfl⟩ := h97
    refine JJ_r1 ?_
    refine JJ_astoreN (lv' := [(4, .null), (0, .ref x), (1, .int pl), (2, .int s), (3, .int what)]) dX11_shot_5 (by decide) rfl ?_
    refine JJ_iload_n dX11_shot_7 rfl rfl ?_
    refine JJ_callS (rest := []) (kc_isPlayer) (by omega) mi_X11_isPlayer lk_X11_115 rfl (Nat.le_of_ble_eq_true rfl) rfl rfl dX11_shot_8 ?_
    intro v98 μ99 h100
    obtain ⟨rfl, rfl⟩ := h100
    refine JJ_r1 ?_
    refine JJ_if_eq (tgt := 19) dX11_shot_11 (by decide) (fun c101 => ?_) (fun c101 => ?_)
    · skip
      refine JJ_bipush (v := (-2)) dX11_shot_19 rfl ?_
      refine JJ_iret dX11_shot_21 rfl ?_
      exact ans_i rfl
    · skip
      refine JJ_aloadN dX11_shot_14 rfl ?_
      refine JJ_ifnonnullN dX11_shot_16 ?_
      refine JJ_bipush (v := (-2)) dX11_shot_19 rfl ?_
      refine JJ_iret dX11_shot_21 rfl ?_
      exact ans_i rfl
theorem tc_n (hg : RNG A) : nI (i2n (A.1 10 0)) = A.1 10 0 := by
  obtain ⟨-, -, -, -, -, k, h1, h6, ek, -⟩ := hg
  rw [ek, show i2n (nI k) = k from nI_clamp (by omega)]
theorem tc_pos (hg : RNG A) : 1 ≤ i2n (A.1 10 0) := by
  obtain ⟨-, -, -, -, -, k, h1, h6, ek, -⟩ := hg
  rw [ek, show i2n (nI k) = k from nI_clamp (by omega)]
  exact h1
theorem tm1 {tc : Nat} (h : 1 ≤ tc) (h6 : tc ≤ 6) : (nI tc - 1).toInt = tc - 1 := by
  rw [show (1 : Int32) = nI 1 from rfl, pk_sub (a := tc) (b := 1) h, nI_toInt (by omega)]
  omega
theorem CWF_p40 {P' : Nat → Nat → Option Nat} (h : CWF x S P) (hP : ∀ b k, x ≤ b → b < x + 75 → ¬ (b = x + 40 ∧ k = 3) → P' b k = P b k) : CWF x S P' := by
  obtain ⟨a1, a2, a3, a4, a5⟩ := h
  refine ⟨a1, fun q hq => ?_, fun i hi => ?_, fun j hj => ?_, fun s hs => ?_⟩
  · rw [← a2 q hq]
    have hb : q.1 < 10 := by
      have : ∀ q ∈ CRf, q.1 < 10 := by decide
      exact this q hq
    exact hP _ _ (by omega) (by omega) (by omega)
  · rw [hP _ 1 (by omega) (by omega) (by omega), hP _ 2 (by omega) (by omega) (by omega), hP _ 3 (by omega) (by omega) (by omega), hP _ 4 (by omega) (by omega) (by omega)]
    exact a3 i hi
  · rw [hP _ 0 (by omega) (by omega) (by omega), hP _ 1 (by omega) (by omega) (by omega)]
    exact a4 j hj
  · rw [hP _ 0 (by omega) (by omega) (by omega)]
    exact a5 s hs
set_option maxHeartbeats 4000000 in
set_option maxRecDepth 100000 in
theorem kc_force {t : Int32} (hA : cABS x n S P M A) (hg2 : RNG2 A) (hC : CWF x S P) (hX : HSC x sc) : KK G sc yX11_force cX11_force 3 (some .int) 1 0 0 [.ref x, .int t] (n, S, M, L, P) (cI x n S M P (.int (zr_force A t).1) (zr_force A t).2) := by
  have hg : RNG A := hg2.1
  have hrl := (rul_lt hg).1
  obtain ⟨cn, hc6, hcA, hcZ⟩ := cnt_e hg
  have h6 := (rul_lt hg).2
  have hct := hA.1
  have hrt := hct.rt hg hA.2.2.1
  have hst := hA.2.2.2.1
  obtain ⟨tc, htc⟩ : ∃ tc, tc = i2n (A.1 10 0) := ⟨_, rfl⟩
  have htn : A.1 10 0 = nI tc := by rw [htc]; exact (tc_n hg).symm
  have htp : 1 ≤ tc := by rw [htc]; exact tc_pos hg
  by_cases hw : 0 ≤ t.toInt ∧ t.toInt < tc
  · skip
    obtain ⟨r, hr, rfl⟩ : ∃ r, r < tc ∧ t = nI r := ⟨t.toInt.toNat, by omega, by rw [i_eq, nI_toInt (by omega)]; omega⟩
    have hr6 : r < 6 := by omega
    have e0 : zr_force A (nI r) = (A.1 9 0, zUp A 9 0 (nI r)) := if_neg (fun z => z (by rw [htn, tm1 htp (by omega)]; exact ⟨hw.1, by omega⟩))
    rw [e0]
    refine KK_of2 [(0, .ref x), (1, .int (nI r))] (by decide +kernel) (Nat.le_of_ble_eq_true rfl) rfl ?_
    refine JJ_iload_n dX11_force_0 rfl rfl ?_
    refine JJ_if_lt (tgt := 12) dX11_force_1 (by decide) (fun c1 => absurd c1 (nI_nn (by omega))) (fun _ => ?_)
    refine JJ_iload_n dX11_force_4 rfl rfl ?_
    refine JJ_aload_n dX11_force_5 rfl rfl ?_
    refine JJ_geti (v := nI tc) (cis := [11]) (k := 2) fa_X11_22 (by decide) (congrArg Prod.fst (hC.sh (t := 0) (k := 12) (m := 0) (by decide))) rfl (hX.1 _ _ (by omega) (by omega) (by omega)) (hA.2.1.trans htn) dX11_force_6 ?_
    refine JJ_icmp_lt (tgt := 15) dX11_force_9 (by decide) (fun _ => ?_) (fun c2 => absurd (nI_lt1 (by omega) (by omega)) c2)
    refine JJ_aload_n dX11_force_15 rfl rfl ?_
    refine JJ_getr (q := x + 40) (cis := [11]) (k := 5) fa_X11_97 (by decide) (congrArg Prod.fst (hC.sh (t := 0) (k := 12) (m := 0) (by decide))) rfl (hC.rf (t := 0) (s := 5) (u := 40) (by decide)) dX11_force_16 ?_
    refine JJ_getr (q := x + 10 + 5 * i2n (A.1 9 0)) (cis := [1]) (k := 3) fa_X11_173 (by decide) (congrArg Prod.fst (hC.2.2.2.1 0 (by decide)).1) rfl hct.2.2.2 dX11_force_19 ?_
    refine JJ_geti (v := A.1 9 0) (cis := [10]) (k := 0) fa_X11_177 (by decide) (hC.tsh (by omega)).1 rfl (hX.1 _ _ (by omega) (by omega) (by omega)) ((hA.2.2.1.2 _ (by omega)).trans (rul_n hg)) dX11_force_22 ?_
    refine JJ_istore_n (lv' := [(2, .int (A.1 9 0)), (0, .ref x), (1, .int (nI r))]) dX11_force_25 rfl (by decide) rfl ?_
    refine JJ_aload_n dX11_force_26 rfl rfl ?_
    refine JJ_getr (q := x + 40) (cis := [11]) (k := 5) fa_X11_97 (by decide) (congrArg Prod.fst (hC.sh (t := 0) (k := 12) (m := 0) (by decide))) rfl (hC.rf (t := 0) (s := 5) (u := 40) (by decide)) dX11_force_27 ?_
    refine JJ_aload_n dX11_force_30 rfl rfl ?_
    refine JJ_getr (q := x + 1) (cis := [11]) (k := 0) fa_X11_11 (by decide) (congrArg Prod.fst (hC.sh (t := 0) (k := 12) (m := 0) (by decide))) rfl (hC.rf (t := 0) (s := 0) (u := 1) (by decide)) dX11_force_31 ?_
    refine JJ_iload_n dX11_force_34 rfl rfl ?_
    refine JJ_aaldX (t := 0) (q := x + 10 + 5 * r) (hC.sh (t := 1) (k := 22) (m := 6) (by decide)) (by decide) (IX_nI (by omega) (by omega)) (hC.txt hr6) dX11_force_35 ?_
    refine JJ_putr (ty := .object "MiddleOfCourt$Text") (cis := [1]) (k := 3) fa_X11_173 (by decide) (congrArg Prod.fst (hC.2.2.2.1 0 (by decide)).1) rfl (fun r hr => by cases hr; exact ⟨rfl, by decide +kernel⟩) rfl rfl dX11_force_36 (fun P3 hP4 => ?_)
    refine JJ_iload_n dX11_force_39 rfl rfl ?_
    refine JJ_iret dX11_force_40 rfl ?_
    have hu : ∀ j, j < 9 → True := fun _ _ => trivial
    have hP : ∀ b k, x ≤ b → b < x + 75 → ¬ CQP x b k → ¬ (b = x + 40 ∧ k = 3) → P3 b k = P b k := fun b k _ _ _ z => rd_n hP4 z rfl
    have hcA' : CTA x (x + 40) P3 M (zUp A 9 0 (nI r)) := by
      refine ⟨hct.1, fun p hp => ?_, ?_, ?_⟩
      · rw [zUp_n (by omega), zUp_n (by omega), zUp_n (by omega), zUp_n (by omega)]; exact hct.2.1 p hp
      · rw [zUp_n (by decide)]; exact hct.w
      · rw [zUp_e, show i2n (nI r) = r from nI_clamp (by omega)]; exact rd_s hP4
    exact ⟨rfl, n, S, M, L, P3, rfl, Nat.le_refl _, fun _ _ => rfl, CWF_p40 hC (fun b k z1 z2 z => rd_n hP4 z rfl), cABS_court hA h6 hcA' (fun b k z1 z2 => zUp_n (by omega)) rfl (fun _ _ _ _ _ _ => rfl) hP hu, fun _ _ _ => rfl, fun b k z => rd_n hP4 (fun e => z (by unfold cF; omega)) rfl⟩
  · skip
    have e0 : zr_force A t = (-2, A) := if_pos (fun z => hw (by rw [htn, tm1 htp (by omega)] at z; exact ⟨z.1, by omega⟩))
    rw [e0]
    have z0 : (0 : Int32).toInt = 0 := rfl
    refine KK_of2 [(0, .ref x), (1, .int t)] (by decide +kernel) (Nat.le_of_ble_eq_true rfl) rfl ?_
    refine JJ_iload_n dX11_force_0 rfl rfl ?_
    refine JJ_if_lt (tgt := 12) dX11_force_1 (by decide) (fun c5 => ?_) (fun c5 => ?_)
    · skip
      refine JJ_bipush (v := (-2)) dX11_force_12 rfl ?_
      refine JJ_iret dX11_force_14 rfl ?_
      exact cI_q rfl hA hC
    · skip
      refine JJ_iload_n dX11_force_4 rfl rfl ?_
      refine JJ_aload_n dX11_force_5 rfl rfl ?_
      refine JJ_geti (v := nI tc) (cis := [11]) (k := 2) fa_X11_22 (by decide) (congrArg Prod.fst (hC.sh (t := 0) (k := 12) (m := 0) (by decide))) rfl (hX.1 _ _ (by omega) (by omega) (by omega)) (hA.2.1.trans htn) dX11_force_6 ?_
      refine JJ_icmp_lt (tgt := 15) dX11_force_9 (by decide) (fun c6 => absurd c6 (fun y => by have y1 := c5; rw [i_lt] at y1; rw [i_lt, nI_toInt (by omega)] at y; omega)) (fun _ => ?_)
      refine JJ_bipush (v := (-2)) dX11_force_12 rfl ?_
      refine JJ_iret dX11_force_14 rfl ?_
      exact cI_q rfl hA hC
end C10
