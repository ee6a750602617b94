section C13
variable {G : Gx} {sc : Nat → Nat → Prop} {n : Nat} {S : Nat → Nat × Nat} {M : Nat → Nat → Int32} {L : Nat → Nat → Int64} {P : Nat → Nat → Option Nat} {x : Nat} {A B : Abs}

theorem zC0 {p : Nat} (hp : p < 2) : zC B p = B.1 0 p := if_pos hp
theorem zto_e {q p : Nat} (hp : p < 2) : zto B q p = s_comes (B.1 5 q) (B.1 7 q) (B.1 0 p) := by
  show s_comes _ _ (zC B p) = _
  rw [zC0 hp]
theorem kc_wouldA {c q p a : Nat} (hp : p < 2) (hst : STK S M a (B.1 5 q) (B.1 6 q) (B.1 7 q)) (ha : x + 94 ≤ a) (hc : CTA x c P M B) (ht : TXS x M B) (hg : RNG B) (hC : CWF x S P) (hX : HSC x sc) :
    KK G sc yX1_wouldWin cX1_wouldWin 6 (some .boolean) 5 0 0 [.ref c, .int (nI p), .ref a] (n, S, M, L, P) (ansI (b2 (zw B q p)) (n, S, M, L, P)) := by
  have := kc_would (E := zE B) (G := G) (sc := sc) (n := n) (L := L) hp hst (fun k => hX.2.1 _ _ ha) (hc.rt hg ht) hC hX
  rw [b2_c (zw_e hc)] at this
  exact this
theorem ztir_1 {p k : Nat} (h : ¬ zw A k p ∧ (ztir A p k).2 < s_far (A.1 0 (1 - p)) (zto A k p)) : ztir A p (k + 1) = (nI k, s_far (A.1 0 (1 - p)) (zto A k p)) := if_pos h
theorem ztir_0 {p k : Nat} (h : ¬ (¬ zw A k p ∧ (ztir A p k).2 < s_far (A.1 0 (1 - p)) (zto A k p))) : ztir A p (k + 1) = ztir A p k := if_neg h
set_option maxHeartbeats 4000000 in
set_option maxRecDepth 100000 in
theorem kc_tires {pl : Int32} (hA : cABS x n S P M A) (hg2 : RNG2 A) (hC : CWF x S P) (hX : HSC x sc) : KK G sc yX11_tires cX11_tires 9 (some .int) 8 0 0 [.ref x, .int pl] (n, S, M, L, P) (ansI (zr_tires A pl) (n, S, M, L, P)) := by
  have hg : RNG A := hg2.1
  have hrl := (rul_lt hg).1
  obtain ⟨cn, hc6, hcA, hcZ⟩ := cnt_e hg
  have h6 := (rul_lt hg).2
  have hct := hA.1
  have hrt := hct.rt hg hA.2.2.1
  have hst := hA.2.2.2.1
  by_cases hs : isPl pl
  · skip
    obtain ⟨p, hp1, rfl⟩ := n_of (m := 1) (by decide) hs
    have hp : p < 2 := by omega
    have hpq : 1 - p < 2 := by omega
    have e0 : zr_tires A (nI p) = (ztir A p cn).1 := (if_neg (fun z => z hs)).trans (by rw [show i2n (nI p) = p from nI_clamp (by omega), hcZ])
    rw [e0]
    refine KK_of2 [(0, .ref x), (1, .int (nI p))] (by decide +kernel) (Nat.le_of_ble_eq_true rfl) rfl ?_
    refine JJ_iload_n dX11_tires_0 rfl rfl ?_
    refine JJ_callS (rest := []) (kc_isPlayer) (by omega) mi_X11_isPlayer lk_X11_115 rfl (Nat.le_of_ble_eq_true rfl) rfl rfl dX11_tires_1 ?_
    intro v1 μ2 h3
    obtain ⟨rfl, rfl⟩ := h3
    refine JJ_r1 ?_
    refine JJ_eqi (x2 := 1) (b2_t hs) ?_
    refine JJ_if_ne (tgt := 10) dX11_tires_4 (by decide) (fun _ => ?_) (fun c4 => absurd c4 (by decide))
    refine JJ_aload_n dX11_tires_10 rfl rfl ?_
    refine JJ_getr (q := x + 40) (cis := [11]) (k := 5) fa_X11_97 (by decide) (congrArg Prod.fst (hC.sh (t := 0) (k := 12) (m := 0) (by decide))) rfl (hC.rf (t := 0) (s := 5) (u := 40) (by decide)) dX11_tires_11 ?_
    refine JJ_iload_n dX11_tires_14 rfl rfl ?_
    refine JJ_callV (rest := []) (congrArg Prod.fst (hC.2.2.2.1 0 (by decide)).1) rfl rfl (kc_one (c := x + 40) (p := p) hp hrt hC hX) (by omega) mi_X1_one lk_X11_119 rfl (Nat.le_of_ble_eq_true rfl) rfl rfl dX11_tires_15 ?_
    intro v5 μ6 h7
    obtain ⟨rfl, rfl⟩ := h7
    refine JJ_r1 ?_
    refine JJ_astore_n (lv' := [(2, .ref (x + 40 + 1 + p)), (0, .ref x), (1, .int (nI p))]) dX11_tires_18 rfl (by decide) rfl ?_
    refine JJ_aload_n dX11_tires_19 rfl rfl ?_
    refine JJ_getr (q := x + 40) (cis := [11]) (k := 5) fa_X11_97 (by decide) (congrArg Prod.fst (hC.sh (t := 0) (k := 12) (m := 0) (by decide))) rfl (hC.rf (t := 0) (s := 5) (u := 40) (by decide)) dX11_tires_20 ?_
    refine JJ_iconst (v := 1) dX11_tires_23 rfl ?_
    refine JJ_iload_n dX11_tires_24 rfl rfl ?_
    refine JJ_isub dX11_tires_25 ?_
    refine JJ_eqi (x2 := nI (1 - p)) (e_sub1 hp) ?_
    refine JJ_callV (rest := []) (congrArg Prod.fst (hC.2.2.2.1 0 (by decide)).1) rfl rfl (kc_one (c := x + 40) (p := (1 - p)) hpq hrt hC hX) (by omega) mi_X1_one lk_X11_119 rfl (Nat.le_of_ble_eq_true rfl) rfl rfl dX11_tires_26 ?_
    intro v8 μ9 h10
    obtain ⟨rfl, rfl⟩ := h10
    refine JJ_r1 ?_
    refine JJ_astore_n (lv' := [(3, .ref (x + 40 + 1 + (1 - p))), (2, .ref (x + 40 + 1 + p)), (0, .ref x), (1, .int (nI p))]) dX11_tires_29 rfl (by decide) rfl ?_
    refine JJ_iconst (v := (-1)) dX11_tires_30 rfl ?_
    refine JJ_istore (lv' := [(4, .int ((-1))), (3, .ref (x + 40 + 1 + (1 - p))), (2, .ref (x + 40 + 1 + p)), (0, .ref x), (1, .int (nI p))]) dX11_tires_31 (by decide) rfl ?_
    refine JJ_iconst (v := (-1)) dX11_tires_33 rfl ?_
    refine JJ_istore (lv' := [(5, .int ((-1))), (4, .int ((-1))), (3, .ref (x + 40 + 1 + (1 - p))), (2, .ref (x + 40 + 1 + p)), (0, .ref x), (1, .int (nI p))]) dX11_tires_34 (by decide) rfl ?_
    refine JJ_iconst (v := 0) dX11_tires_36 rfl ?_
    refine JJ_istore (lv' := [(6, .int 0), (5, .int ((-1))), (4, .int ((-1))), (3, .ref (x + 40 + 1 + (1 - p))), (2, .ref (x + 40 + 1 + p)), (0, .ref x), (1, .int (nI p))]) dX11_tires_37 (by decide) rfl ?_
    have key : ∀ (d k : Nat) (tr mo : Int32), k + d = cn → (tr, mo) = ztir A p k → JJ G sc yX11_tires cX11_tires 9 (some .int) 8 0 0 (ansI (ztir A p cn).1 (n, S, M, L, P)) 39 [(6, .int (nI k)), (5, .int tr), (4, .int mo), (3, .ref (x + 40 + 1 + (1 - p))), (2, .ref (x + 40 + 1 + p)), (0, .ref x), (1, .int (nI p))] [] (n, S, M, L, P) := by
      intro d
      induction d with
      | zero =>
        intro k tr mo hk hz
        refine JJ_iload dX11_tires_39 rfl ?_
        refine JJ_aload_n dX11_tires_41 rfl rfl ?_
        refine JJ_geti (v := nI cn) (cis := [11]) (k := 4) fa_X11_32 (by decide) (congrArg Prod.fst (hC.sh (t := 0) (k := 12) (m := 0) (by decide))) rfl (hX.1 _ _ (by omega) (by omega) (by omega)) (hst.1.trans hcA) dX11_tires_42 ?_
        refine JJ_icmp_ge (tgt := 117) dX11_tires_45 (by decide) (fun _ => ?_) (fun c11 => absurd (nI_le (by omega) (by omega)) c11)
        refine JJ_iload dX11_tires_117 rfl ?_
        refine JJ_iret dX11_tires_119 rfl ?_
        have hkc : k = cn := by omega
        rw [hkc] at hz
        exact ans_i (by rw [← hz])
      | succ d ih =>
        intro k tr mo hk hz
        have hq : k < zcnt A := by omega
        obtain ⟨a, ha, ha1, ha2, hsk⟩ := hst.at hq
        have ez : zto A k p = s_comes (A.1 5 k) (A.1 7 k) (A.1 0 p) := zto_e hp
        refine JJ_iload dX11_tires_39 rfl ?_
        refine JJ_aload_n dX11_tires_41 rfl rfl ?_
        refine JJ_geti (v := nI cn) (cis := [11]) (k := 4) fa_X11_32 (by decide) (congrArg Prod.fst (hC.sh (t := 0) (k := 12) (m := 0) (by decide))) rfl (hX.1 _ _ (by omega) (by omega) (by omega)) (hst.1.trans hcA) dX11_tires_42 ?_
        refine JJ_icmp_ge (tgt := 117) dX11_tires_45 (by decide) (fun c12 => absurd c12 (nI_ge (by omega) (by omega))) (fun _ => ?_)
        refine JJ_aload_n dX11_tires_48 rfl rfl ?_
        refine JJ_iload dX11_tires_49 rfl ?_
        refine JJ_callV (rest := []) (congrArg Prod.fst (hC.sh (t := 0) (k := 12) (m := 0) (by decide))) rfl rfl (kc_strokeAt hq ha hst hg hC hX) (by omega) mi_X11_strokeAt lk_X11_129 rfl (Nat.le_of_ble_eq_true rfl) rfl rfl dX11_tires_51 ?_
        intro v13 μ14 h15
        obtain ⟨rfl, rfl⟩ := h15
        refine JJ_r1 ?_
        refine JJ_astore (lv' := [(7, .ref a), (6, .int (nI k)), (5, .int tr), (4, .int mo), (3, .ref (x + 40 + 1 + (1 - p))), (2, .ref (x + 40 + 1 + p)), (0, .ref x), (1, .int (nI p))]) dX11_tires_54 (by decide) rfl ?_
        refine JJ_aload dX11_tires_56 rfl ?_
        refine JJ_ifnonnullR (tgt := 65) dX11_tires_58 (by decide) ?_
        refine JJ_aload_n dX11_tires_65 rfl rfl ?_
        refine JJ_geti (v := A.1 0 (1 - p)) (cis := [6]) (k := 0) fa_X11_150 (by decide) (hrt.pl hC (p := (1 - p)) (by omega)) rfl (hX.1 _ _ (by omega) (by omega) (by omega)) (hct.c0 hpq) dX11_tires_66 ?_
        refine JJ_aload dX11_tires_69 rfl ?_
        refine JJ_aload_n dX11_tires_71 rfl rfl ?_
        refine JJ_geti (v := A.1 0 p) (cis := [6]) (k := 0) fa_X11_150 (by decide) (hrt.pl hC (p := p) (by omega)) rfl (hX.1 _ _ (by omega) (by omega) (by omega)) (hct.c0 hp) dX11_tires_72 ?_
        refine ju_X11_153 hsk rfl (fun k => hX.2.1 _ _ ha1) (by omega) (Nat.le_of_ble_eq_true rfl) dX11_tires_75 ?_
        refine JJ_callS (rest := []) (kc_apart) (by omega) mi_X11_apart lk_X11_214 rfl (Nat.le_of_ble_eq_true rfl) rfl rfl dX11_tires_78 ?_
        intro v16 μ17 h18
        obtain ⟨rfl, rfl⟩ := h18
        refine JJ_r1 ?_
        refine JJ_istore (lv' := [(8, .int (s_far (A.1 0 (1 - p)) (s_comes (A.1 5 k) (A.1 7 k) (A.1 0 p)))), (7, .ref a), (6, .int (nI k)), (5, .int tr), (4, .int mo), (3, .ref (x + 40 + 1 + (1 - p))), (2, .ref (x + 40 + 1 + p)), (0, .ref x), (1, .int (nI p))]) dX11_tires_81 (by decide) rfl ?_
        refine JJ_iload dX11_tires_83 rfl ?_
        refine JJ_iload dX11_tires_85 rfl ?_
        refine JJ_icmp_le (tgt := 111) dX11_tires_87 (by decide) (fun c19 => ?_) (fun c19 => ?_)
        · skip
          refine JJ_iinc (v := nI (k + 1)) (lv' := [(6, .int (nI (k + 1))), (8, .int (s_far (A.1 0 (1 - p)) (s_comes (A.1 5 k) (A.1 7 k) (A.1 0 p)))), (7, .ref a), (5, .int tr), (4, .int mo), (3, .ref (x + 40 + 1 + (1 - p))), (2, .ref (x + 40 + 1 + p)), (0, .ref x), (1, .int (nI p))]) dX11_tires_111 rfl (nI_add (k) 1) (by decide) rfl ?_
          refine JJ_goto (tgt := 39) dX11_tires_114 (by decide) ?_
          refine JJ.pick [0, 3, 4, 5, 6, 7, 8] rfl ?_
          exact ih (k + 1) _ _ (by omega) (by rw [ztir_0 (fun z => by have y := z.2; rw [ez, ← hz] at y; exact Int32.not_lt.mpr c19 y)]; exact hz)
        · skip
          refine JJ_aload_n dX11_tires_90 rfl rfl ?_
          refine JJ_getr (q := x + 40) (cis := [11]) (k := 5) fa_X11_97 (by decide) (congrArg Prod.fst (hC.sh (t := 0) (k := 12) (m := 0) (by decide))) rfl (hC.rf (t := 0) (s := 5) (u := 40) (by decide)) dX11_tires_91 ?_
          refine JJ_iload_n dX11_tires_94 rfl rfl ?_
          refine JJ_aload dX11_tires_95 rfl ?_
          refine JJ_callV (rest := []) (congrArg Prod.fst (hC.2.2.2.1 0 (by decide)).1) rfl rfl (kc_wouldA (q := k) hp hsk ha1 hct hA.2.2.1 hg hC hX) (by omega) mi_X1_wouldWin lk_X11_217 rfl (Nat.le_of_ble_eq_true rfl) rfl rfl dX11_tires_97 ?_
          intro v20 μ21 h22
          obtain ⟨rfl, rfl⟩ := h22
          refine JJ_r1 ?_
          refine JJ_if_ne (tgt := 111) dX11_tires_100 (by decide) (fun c23 => ?_) (fun c23 => ?_)
          · skip
            refine JJ_iinc (v := nI (k + 1)) (lv' := [(6, .int (nI (k + 1))), (8, .int (s_far (A.1 0 (1 - p)) (s_comes (A.1 5 k) (A.1 7 k) (A.1 0 p)))), (7, .ref a), (5, .int tr), (4, .int mo), (3, .ref (x + 40 + 1 + (1 - p))), (2, .ref (x + 40 + 1 + p)), (0, .ref x), (1, .int (nI p))]) dX11_tires_111 rfl (nI_add (k) 1) (by decide) rfl ?_
            refine JJ_goto (tgt := 39) dX11_tires_114 (by decide) ?_
            refine JJ.pick [0, 3, 4, 5, 6, 7, 8] rfl ?_
            exact ih (k + 1) _ _ (by omega) (by rw [ztir_0 (fun z => z.1 (b2_n.mp c23))]; exact hz)
          · skip
            refine JJ_iload dX11_tires_103 rfl ?_
            refine JJ_istore (lv' := [(4, .int (s_far (A.1 0 (1 - p)) (s_comes (A.1 5 k) (A.1 7 k) (A.1 0 p)))), (8, .int (s_far (A.1 0 (1 - p)) (s_comes (A.1 5 k) (A.1 7 k) (A.1 0 p)))), (7, .ref a), (6, .int (nI k)), (5, .int tr), (3, .ref (x + 40 + 1 + (1 - p))), (2, .ref (x + 40 + 1 + p)), (0, .ref x), (1, .int (nI p))]) dX11_tires_105 (by decide) rfl ?_
            refine JJ_iload dX11_tires_107 rfl ?_
            refine JJ_istore (lv' := [(5, .int (nI k)), (4, .int (s_far (A.1 0 (1 - p)) (s_comes (A.1 5 k) (A.1 7 k) (A.1 0 p)))), (8, .int (s_far (A.1 0 (1 - p)) (s_comes (A.1 5 k) (A.1 7 k) (A.1 0 p)))), (7, .ref a), (6, .int (nI k)), (3, .ref (x + 40 + 1 + (1 - p))), (2, .ref (x + 40 + 1 + p)), (0, .ref x), (1, .int (nI p))]) dX11_tires_109 (by decide) rfl ?_
            refine JJ_iinc (v := nI (k + 1)) (lv' := [(6, .int (nI (k + 1))), (5, .int (nI k)), (4, .int (s_far (A.1 0 (1 - p)) (s_comes (A.1 5 k) (A.1 7 k) (A.1 0 p)))), (8, .int (s_far (A.1 0 (1 - p)) (s_comes (A.1 5 k) (A.1 7 k) (A.1 0 p)))), (7, .ref a), (3, .ref (x + 40 + 1 + (1 - p))), (2, .ref (x + 40 + 1 + p)), (0, .ref x), (1, .int (nI p))]) dX11_tires_111 rfl (nI_add (k) 1) (by decide) rfl ?_
            refine JJ_goto (tgt := 39) dX11_tires_114 (by decide) ?_
            refine JJ.pick [0, 1, 2, 5, 6, 7, 8] rfl ?_
            exact ih (k + 1) _ _ (by omega) (by rw [ztir_1 ⟨b2_0.mp c23, by rw [ez, ← hz]; exact Int32.not_le.mp c19⟩, ez])
    refine JJ.pick [0, 1, 2, 3, 4, 5, 6] rfl ?_
    exact key cn 0 (-1) (-1) (by omega) rfl
  · skip
    have e0 : zr_tires A pl = -2 := if_pos hs
    rw [e0]
    refine KK_of2 [(0, .ref x), (1, .int pl)] (by decide +kernel) (Nat.le_of_ble_eq_true rfl) rfl ?_
    refine JJ_iload_n dX11_tires_0 rfl rfl ?_
    refine JJ_callS (rest := []) (kc_isPlayer) (by omega) mi_X11_isPlayer lk_X11_115 rfl (Nat.le_of_ble_eq_true rfl) rfl rfl dX11_tires_1 ?_
    intro v24 μ25 h26
    obtain ⟨rfl, rfl⟩ := h26
    refine JJ_r1 ?_
    refine JJ_eqi (x2 := 0) (b2_f hs) ?_
    refine JJ_if_ne (tgt := 10) dX11_tires_4 (by decide) (fun c27 => absurd (by decide) c27) (fun _ => ?_)
    refine JJ_bipush (v := (-2)) dX11_tires_7 rfl ?_
    refine JJ_iret dX11_tires_9 rfl ?_
    exact ans_i rfl
theorem zmost_1 {f : Nat → Int32} {k : Nat} (h : k = 0 ∨ zmost f k < f k) : zmost f (k + 1) = f k := if_pos h
theorem zmost_0 {f : Nat → Int32} {k : Nat} (h : ¬ (k = 0 ∨ zmost f k < f k)) : zmost f (k + 1) = zmost f k := if_neg h
theorem zmost_m {f : Nat → Int32} {k : Nat} (h : ¬ k = 0) : zmost f (k + 1) = (if zmost f k < f k then f k else zmost f k) := by
  by_cases g : zmost f k < f k
  · rw [zmost_1 (Or.inr g), if_pos g]
  · rw [zmost_0 (fun z => z.elim h g), if_neg g]
set_option maxHeartbeats 4000000 in
set_option maxRecDepth 100000 in
theorem kc_badness {p : Nat} {c : Int32} (hp : p < 2) (hA : cABS x n S P M A) (hg2 : RNG2 A) (hC : CWF x S P) (hX : HSC x sc) : KK G sc yX11_badness cX11_badness 10 (some .int) 8 0 0 [.ref x, .int (nI p), .int c] (n, S, M, L, P) (ansI (zbad A p c) (n, S, M, L, P)) := by
  have hg : RNG A := hg2.1
  have hrl := (rul_lt hg).1
  obtain ⟨cn, hc6, hcA, hcZ⟩ := cnt_e hg
  have h6 := (rul_lt hg).2
  have hct := hA.1
  have hrt := hct.rt hg hA.2.2.1
  have hst := hA.2.2.2.1
  have hpq : 1 - p < 2 := by omega
  have e0 : zbad A p c = zmost (zlate A p c) cn := by unfold zbad; rw [hcZ]
  rw [e0]
  refine KK_of2 [(0, .ref x), (1, .int (nI p)), (2, .int c)] (by decide +kernel) (Nat.le_of_ble_eq_true rfl) rfl ?_
  refine JJ_aload_n dX11_badness_0 rfl rfl ?_
  refine JJ_getr (q := x + 40) (cis := [11]) (k := 5) fa_X11_97 (by decide) (congrArg Prod.fst (hC.sh (t := 0) (k := 12) (m := 0) (by decide))) rfl (hC.rf (t := 0) (s := 5) (u := 40) (by decide)) dX11_badness_1 ?_
  refine JJ_iload_n dX11_badness_4 rfl rfl ?_
  refine JJ_callV (rest := []) (congrArg Prod.fst (hC.2.2.2.1 0 (by decide)).1) rfl rfl (kc_one (c := x + 40) (p := p) hp hrt hC hX) (by omega) mi_X1_one lk_X11_119 rfl (Nat.le_of_ble_eq_true rfl) rfl rfl dX11_badness_5 ?_
  intro v1 μ2 h3
  obtain ⟨rfl, rfl⟩ := h3
  refine JJ_r1 ?_
  refine JJ_astore_n (lv' := [(3, .ref (x + 40 + 1 + p)), (0, .ref x), (1, .int (nI p)), (2, .int c)]) dX11_badness_8 rfl (by decide) rfl ?_
  refine JJ_aload_n dX11_badness_9 rfl rfl ?_
  refine JJ_getr (q := x + 40) (cis := [11]) (k := 5) fa_X11_97 (by decide) (congrArg Prod.fst (hC.sh (t := 0) (k := 12) (m := 0) (by decide))) rfl (hC.rf (t := 0) (s := 5) (u := 40) (by decide)) dX11_badness_10 ?_
  refine JJ_iconst (v := 1) dX11_badness_13 rfl ?_
  refine JJ_iload_n dX11_badness_14 rfl rfl ?_
  refine JJ_isub dX11_badness_15 ?_
  refine JJ_eqi (x2 := nI (1 - p)) (e_sub1 hp) ?_
  refine JJ_callV (rest := []) (congrArg Prod.fst (hC.2.2.2.1 0 (by decide)).1) rfl rfl (kc_one (c := x + 40) (p := (1 - p)) hpq hrt hC hX) (by omega) mi_X1_one lk_X11_119 rfl (Nat.le_of_ble_eq_true rfl) rfl rfl dX11_badness_16 ?_
  intro v4 μ5 h6
  obtain ⟨rfl, rfl⟩ := h6
  refine JJ_r1 ?_
  refine JJ_astore (lv' := [(4, .ref (x + 40 + 1 + (1 - p))), (3, .ref (x + 40 + 1 + p)), (0, .ref x), (1, .int (nI p)), (2, .int c)]) dX11_badness_19 (by decide) rfl ?_
  refine JJ_iconst (v := 0) dX11_badness_21 rfl ?_
  refine JJ_istore (lv' := [(5, .int 0), (4, .ref (x + 40 + 1 + (1 - p))), (3, .ref (x + 40 + 1 + p)), (0, .ref x), (1, .int (nI p)), (2, .int c)]) dX11_badness_22 (by decide) rfl ?_
  refine JJ_iconst (v := 0) dX11_badness_24 rfl ?_
  refine JJ_istore (lv' := [(6, .int 0), (5, .int 0), (4, .ref (x + 40 + 1 + (1 - p))), (3, .ref (x + 40 + 1 + p)), (0, .ref x), (1, .int (nI p)), (2, .int c)]) dX11_badness_25 (by decide) rfl ?_
  have key : ∀ (d k : Nat) (mo : Int32), k + d = cn → mo = zmost (zlate A p c) k → JJ G sc yX11_badness cX11_badness 10 (some .int) 8 0 0 (ansI (zmost (zlate A p c) cn) (n, S, M, L, P)) 27 [(6, .int (nI k)), (5, .int mo), (4, .ref (x + 40 + 1 + (1 - p))), (3, .ref (x + 40 + 1 + p)), (0, .ref x), (1, .int (nI p)), (2, .int c)] [] (n, S, M, L, P) := by
    intro d
    induction d with
    | zero =>
      intro k mo hk hz
      refine JJ_iload dX11_badness_27 rfl ?_
      refine JJ_aload_n dX11_badness_29 rfl rfl ?_
      refine JJ_geti (v := nI cn) (cis := [11]) (k := 4) fa_X11_32 (by decide) (congrArg Prod.fst (hC.sh (t := 0) (k := 12) (m := 0) (by decide))) rfl (hX.1 _ _ (by omega) (by omega) (by omega)) (hst.1.trans hcA) dX11_badness_30 ?_
      refine JJ_icmp_ge (tgt := 111) dX11_badness_33 (by decide) (fun _ => ?_) (fun c7 => absurd (nI_le (by omega) (by omega)) c7)
      refine JJ_iload dX11_badness_111 rfl ?_
      refine JJ_iret dX11_badness_113 rfl ?_
      have hkc : k = cn := by omega
      rw [hkc] at hz
      exact ans_i hz
    | succ d ih =>
      intro k mo hk hz
      have hq : k < zcnt A := by omega
      obtain ⟨a, ha, ha1, ha2, hsk⟩ := hst.at hq
      refine JJ_iload dX11_badness_27 rfl ?_
      refine JJ_aload_n dX11_badness_29 rfl rfl ?_
      refine JJ_geti (v := nI cn) (cis := [11]) (k := 4) fa_X11_32 (by decide) (congrArg Prod.fst (hC.sh (t := 0) (k := 12) (m := 0) (by decide))) rfl (hX.1 _ _ (by omega) (by omega) (by omega)) (hst.1.trans hcA) dX11_badness_30 ?_
      refine JJ_icmp_ge (tgt := 111) dX11_badness_33 (by decide) (fun c8 => absurd c8 (nI_ge (by omega) (by omega))) (fun _ => ?_)
      refine JJ_aload_n dX11_badness_36 rfl rfl ?_
      refine JJ_iload dX11_badness_37 rfl ?_
      refine JJ_callV (rest := []) (congrArg Prod.fst (hC.sh (t := 0) (k := 12) (m := 0) (by decide))) rfl rfl (kc_strokeAt hq ha hst hg hC hX) (by omega) mi_X11_strokeAt lk_X11_129 rfl (Nat.le_of_ble_eq_true rfl) rfl rfl dX11_badness_39 ?_
      intro v9 μ10 h11
      obtain ⟨rfl, rfl⟩ := h11
      refine JJ_r1 ?_
      refine JJ_astore (lv' := [(7, .ref a), (6, .int (nI k)), (5, .int mo), (4, .ref (x + 40 + 1 + (1 - p))), (3, .ref (x + 40 + 1 + p)), (0, .ref x), (1, .int (nI p)), (2, .int c)]) dX11_badness_42 (by decide) rfl ?_
      refine JJ_aload dX11_badness_44 rfl ?_
      refine JJ_ifnullR dX11_badness_46 ?_
      refine JJ_aload dX11_badness_49 rfl ?_
      refine JJ_aload dX11_badness_51 rfl ?_
      refine JJ_geti (v := A.1 0 (1 - p)) (cis := [6]) (k := 0) fa_X11_150 (by decide) (hrt.pl hC (p := (1 - p)) (by omega)) rfl (hX.1 _ _ (by omega) (by omega) (by omega)) (hct.c0 hpq) dX11_badness_53 ?_
      refine ju_X11_153 hsk rfl (fun k => hX.2.1 _ _ ha1) (by omega) (Nat.le_of_ble_eq_true rfl) dX11_badness_56 ?_
      refine JJ_istore (lv' := [(8, .int (s_comes (A.1 5 k) (A.1 7 k) (A.1 0 (1 - p)))), (7, .ref a), (6, .int (nI k)), (5, .int mo), (4, .ref (x + 40 + 1 + (1 - p))), (3, .ref (x + 40 + 1 + p)), (0, .ref x), (1, .int (nI p)), (2, .int c)]) dX11_badness_59 (by decide) rfl ?_
      refine JJ_aload_n dX11_badness_61 rfl rfl ?_
      refine JJ_getr (q := x + 40) (cis := [11]) (k := 5) fa_X11_97 (by decide) (congrArg Prod.fst (hC.sh (t := 0) (k := 12) (m := 0) (by decide))) rfl (hC.rf (t := 0) (s := 5) (u := 40) (by decide)) dX11_badness_62 ?_
      refine JJ_aload_n dX11_badness_65 rfl rfl ?_
      refine JJ_iload_n dX11_badness_66 rfl rfl ?_
      refine JJ_iload dX11_badness_67 rfl ?_
      refine JJ_callV (rest := []) (congrArg Prod.fst (hC.2.2.2.1 0 (by decide)).1) rfl rfl (kc_needs (p := p) (E := zE A) hp hrt hC hX) (by omega) mi_X1_needsOf lk_X11_166 rfl (Nat.le_of_ble_eq_true rfl) rfl rfl dX11_badness_69 ?_
      intro v12 μ13 h14
      obtain ⟨rfl, rfl⟩ := h14
      refine JJ_r1 ?_
      refine JJ_eqi (x2 := s_needs (zE A) (A.1 4 0) (A.1 1 p) (A.1 2 p) c (s_comes (A.1 5 k) (A.1 7 k) (A.1 0 (1 - p)))) (by rw [hct.w, hct.c1 hp, hct.c2 hp]) ?_
      refine JJ_aload_n dX11_badness_72 rfl rfl ?_
      refine JJ_getr (q := x + 40) (cis := [11]) (k := 5) fa_X11_97 (by decide) (congrArg Prod.fst (hC.sh (t := 0) (k := 12) (m := 0) (by decide))) rfl (hC.rf (t := 0) (s := 5) (u := 40) (by decide)) dX11_badness_73 ?_
      refine JJ_aload dX11_badness_76 rfl ?_
      refine JJ_aload dX11_badness_78 rfl ?_
      refine JJ_callV (rest := [.int (s_needs (zE A) (A.1 4 0) (A.1 1 p) (A.1 2 p) c (s_comes (A.1 5 k) (A.1 7 k) (A.1 0 (1 - p))))]) (congrArg Prod.fst (hC.2.2.2.1 0 (by decide)).1) rfl rfl (kc_tenths (p := 1 - p) (E := zE A) hpq hsk (fun k => hX.2.1 _ _ ha1) hrt hC hX) (by omega) mi_X1_tenthsOf lk_X11_156 rfl (Nat.le_of_ble_eq_true rfl) rfl rfl dX11_badness_80 ?_
      intro v15 μ16 h17
      obtain ⟨rfl, rfl⟩ := h17
      refine JJ_r1 ?_
      refine JJ_eqi (x2 := s_tenths (zE A) (A.1 4 0) (A.1 1 (1 - p)) (A.1 2 (1 - p)) (A.1 5 k) (A.1 6 k) (A.1 0 (1 - p)) (s_comes (A.1 5 k) (A.1 7 k) (A.1 0 (1 - p)))) (by rw [hct.w, hct.c1 hpq, hct.c2 hpq, hct.c0 hpq]) ?_
      refine JJ_isub dX11_badness_83 ?_
      refine JJ_eqi (x2 := zlate A p c k) rfl ?_
      refine JJ_istore (lv' := [(9, .int (zlate A p c k)), (8, .int (s_comes (A.1 5 k) (A.1 7 k) (A.1 0 (1 - p)))), (7, .ref a), (6, .int (nI k)), (5, .int mo), (4, .ref (x + 40 + 1 + (1 - p))), (3, .ref (x + 40 + 1 + p)), (0, .ref x), (1, .int (nI p)), (2, .int c)]) dX11_badness_84 (by decide) rfl ?_
      refine JJ_iload dX11_badness_86 rfl ?_
      refine JJ_if_ne (tgt := 96) dX11_badness_88 (by decide) (fun c18 => ?_) (fun c18 => ?_)
      · skip
        refine JJ_iload dX11_badness_96 rfl ?_
        refine JJ_iload dX11_badness_98 rfl ?_
        refine JJ_max lk_X11_310 tb_637 tb_83 tb_638 (Nat.le_of_ble_eq_true rfl) dX11_badness_100 ?_
        refine JJ_istore (lv' := [(5, .int (if mo < (zlate A p c k) then (zlate A p c k) else mo)), (9, .int (zlate A p c k)), (8, .int (s_comes (A.1 5 k) (A.1 7 k) (A.1 0 (1 - p)))), (7, .ref a), (6, .int (nI k)), (4, .ref (x + 40 + 1 + (1 - p))), (3, .ref (x + 40 + 1 + p)), (0, .ref x), (1, .int (nI p)), (2, .int c)]) dX11_badness_103 (by decide) rfl ?_
        refine JJ_iinc (v := nI (k + 1)) (lv' := [(6, .int (nI (k + 1))), (5, .int (if mo < (zlate A p c k) then (zlate A p c k) else mo)), (9, .int (zlate A p c k)), (8, .int (s_comes (A.1 5 k) (A.1 7 k) (A.1 0 (1 - p)))), (7, .ref a), (4, .ref (x + 40 + 1 + (1 - p))), (3, .ref (x + 40 + 1 + p)), (0, .ref x), (1, .int (nI p)), (2, .int c)]) dX11_badness_105 rfl (nI_add (k) 1) (by decide) rfl ?_
        refine JJ_goto (tgt := 27) dX11_badness_108 (by decide) ?_
        refine JJ.pick [0, 1, 5, 6, 7, 8, 9] rfl ?_
        exact ih (k + 1) _ (by omega) (by rw [zmost_m (fun z => c18 (by rw [z]; rfl)), ← hz])
      · skip
        refine JJ_iload dX11_badness_91 rfl ?_
        refine JJ_goto (tgt := 103) dX11_badness_93 (by decide) ?_
        refine JJ_istore (lv' := [(5, .int (zlate A p c k)), (9, .int (zlate A p c k)), (8, .int (s_comes (A.1 5 k) (A.1 7 k) (A.1 0 (1 - p)))), (7, .ref a), (6, .int (nI k)), (4, .ref (x + 40 + 1 + (1 - p))), (3, .ref (x + 40 + 1 + p)), (0, .ref x), (1, .int (nI p)), (2, .int c)]) dX11_badness_103 (by decide) rfl ?_
        refine JJ_iinc (v := nI (k + 1)) (lv' := [(6, .int (nI (k + 1))), (5, .int (zlate A p c k)), (9, .int (zlate A p c k)), (8, .int (s_comes (A.1 5 k) (A.1 7 k) (A.1 0 (1 - p)))), (7, .ref a), (4, .ref (x + 40 + 1 + (1 - p))), (3, .ref (x + 40 + 1 + p)), (0, .ref x), (1, .int (nI p)), (2, .int c)]) dX11_badness_105 rfl (nI_add (k) 1) (by decide) rfl ?_
        refine JJ_goto (tgt := 27) dX11_badness_108 (by decide) ?_
        refine JJ.pick [0, 1, 5, 6, 7, 8, 9] rfl ?_
        exact ih (k + 1) _ (by omega) (zmost_1 (Or.inl (nI_inj (b := 0) (by omega) (by omega) c18))).symm
  refine JJ.pick [0, 1, 2, 3, 4, 5, 6] rfl ?_
  exact key cn 0 0 (by omega) rfl
set_option maxHeartbeats 4000000 in
set_option maxRecDepth 100000 in
theorem kc_stand {pl what : Int32} (hA : cABS x n S P M A) (hg2 : RNG2 A) (hC : CWF x S P) (hX : HSC x sc) : KK G sc yX11_stand cX11_stand 7 (some .int) 9 0 0 [.ref x, .int pl, .int what] (n, S, M, L, P) (ansI (zr_stand A pl what) (n, S, M, L, P)) := by
  have hg : RNG A := hg2.1
  have hrl := (rul_lt hg).1
  obtain ⟨cn, hc6, hcA, hcZ⟩ := cnt_e hg
  have h6 := (rul_lt hg).2
  have hct := hA.1
  have hrt := hct.rt hg hA.2.2.1
  have hst := hA.2.2.2.1
  have z0 : (0 : Int32).toInt = 0 := rfl
  have z1 : (1 : Int32).toInt = 1 := rfl
  by_cases hs : isPl pl
  · skip
    by_cases hs2 : isPl what
    · skip
      obtain ⟨p, hp1, rfl⟩ := n_of (m := 1) (by decide) hs
      have hp : p < 2 := by omega
      have e0 : zr_stand A (nI p) what = if what = 0 then (zleast (fun c => zbad A p (nI c)) 25).1 else (zleast (fun c => zbad A p (nI c)) 25).2 := (if_neg (fun z => z ⟨hs, hs2⟩)).trans (by rw [show i2n (nI p) = p from nI_clamp (by omega)])
      rw [e0]
      refine KK_of2 [(0, .ref x), (1, .int (nI p)), (2, .int what)] (by decide +kernel) (Nat.le_of_ble_eq_true rfl) rfl ?_
      refine JJ_iload_n dX11_stand_0 rfl rfl ?_
      refine JJ_callS (rest := []) (kc_isPlayer) (by omega) mi_X11_isPlayer lk_X11_115 rfl (Nat.le_of_ble_eq_true rfl) rfl rfl dX11_stand_1 ?_
      intro v1 μ2 h3
      obtain ⟨rfl, rfl⟩ := h3
      refine JJ_r1 ?_
      refine JJ_eqi (x2 := 1) (b2_t hs) ?_
      refine JJ_if_eq (tgt := 16) dX11_stand_4 (by decide) (fun c4 => absurd c4 (by decide)) (fun _ => ?_)
      refine JJ_iload_n dX11_stand_7 rfl rfl ?_
      refine JJ_if_lt (tgt := 16) dX11_stand_8 (by decide) (fun c5 => absurd c5 (fun y => by rw [i_lt] at y; omega)) (fun _ => ?_)
      refine JJ_iload_n dX11_stand_11 rfl rfl ?_
      refine JJ_iconst (v := 1) dX11_stand_12 rfl ?_
      refine JJ_icmp_le (tgt := 19) dX11_stand_13 (by decide) (fun _ => ?_) (fun c6 => absurd (i_le.mpr (by omega)) c6)
      refine JJ_iconst (v := 0) dX11_stand_19 rfl ?_
      refine JJ_istore_n (lv' := [(3, .int 0), (0, .ref x), (1, .int (nI p)), (2, .int what)]) dX11_stand_20 rfl (by decide) rfl ?_
      refine JJ_aload_n dX11_stand_21 rfl rfl ?_
      refine JJ_iload_n dX11_stand_22 rfl rfl ?_
      refine JJ_iconst (v := 0) dX11_stand_23 rfl ?_
      refine JJ_callV (rest := []) (congrArg Prod.fst (hC.sh (t := 0) (k := 12) (m := 0) (by decide))) rfl rfl (kc_badness hp hA hg2 hC hX) (by omega) mi_X11_badness lk_X11_211 rfl (Nat.le_of_ble_eq_true rfl) rfl rfl dX11_stand_24 ?_
      intro v7 μ8 h9
      obtain ⟨rfl, rfl⟩ := h9
      refine JJ_r1 ?_
      refine JJ_istore (lv' := [(4, .int (zbad A p 0)), (3, .int 0), (0, .ref x), (1, .int (nI p)), (2, .int what)]) dX11_stand_27 (by decide) rfl ?_
      refine JJ_iconst (v := 1) dX11_stand_29 rfl ?_
      refine JJ_istore (lv' := [(5, .int 1), (4, .int (zbad A p 0)), (3, .int 0), (0, .ref x), (1, .int (nI p)), (2, .int what)]) dX11_stand_30 (by decide) rfl ?_
      have key : ∀ (d k : Nat) (wh le : Int32), k + d = 25 → 1 ≤ k → (wh, le) = zleast (fun c => zbad A p (nI c)) k → ¬ wh = -1 → JJ G sc yX11_stand cX11_stand 7 (some .int) 9 0 0 (ansI (if what = 0 then (zleast (fun c => zbad A p (nI c)) 25).1 else (zleast (fun c => zbad A p (nI c)) 25).2) (n, S, M, L, P)) 32 [(5, .int (nI k)), (4, .int le), (3, .int wh), (0, .ref x), (1, .int (nI p)), (2, .int what)] [] (n, S, M, L, P) := by
        intro d
        induction d with
        | zero =>
          intro k wh le hk hk1 hz hw1
          refine JJ_iload dX11_stand_32 rfl ?_
          refine JJ_bipush (v := 25) dX11_stand_34 rfl ?_
          refine JJ_icmp_ge (tgt := 68) dX11_stand_36 (by decide) (fun _ => ?_) (fun c10 => absurd (nI_le (a := 25) (by omega) (by omega)) c10)
          refine JJ_iload_n dX11_stand_68 rfl rfl ?_
          refine JJ_if_ne (tgt := 76) dX11_stand_69 (by decide) (fun c11 => ?_) (fun c11 => ?_)
          · skip
            refine JJ_iload dX11_stand_76 rfl ?_
            refine JJ_iret dX11_stand_78 rfl ?_
            have hkc : k = 25 := by omega
            rw [hkc] at hz
            exact ans_i (by rw [if_neg c11, ← hz])
          · skip
            refine JJ_iload_n dX11_stand_72 rfl rfl ?_
            refine JJ_goto (tgt := 78) dX11_stand_73 (by decide) ?_
            refine JJ_iret dX11_stand_78 rfl ?_
            have hkc : k = 25 := by omega
            rw [hkc] at hz
            exact ans_i (by rw [if_pos c11, ← hz])
        | succ d ih =>
          intro k wh le hk hk1 hz hw1
          refine JJ_iload dX11_stand_32 rfl ?_
          refine JJ_bipush (v := 25) dX11_stand_34 rfl ?_
          refine JJ_icmp_ge (tgt := 68) dX11_stand_36 (by decide) (fun c12 => absurd c12 (nI_ge (b := 25) (by omega) (by omega))) (fun _ => ?_)
          refine JJ_aload_n dX11_stand_39 rfl rfl ?_
          refine JJ_iload_n dX11_stand_40 rfl rfl ?_
          refine JJ_iload dX11_stand_41 rfl ?_
          refine JJ_callV (rest := []) (congrArg Prod.fst (hC.sh (t := 0) (k := 12) (m := 0) (by decide))) rfl rfl (kc_badness hp hA hg2 hC hX) (by omega) mi_X11_badness lk_X11_211 rfl (Nat.le_of_ble_eq_true rfl) rfl rfl dX11_stand_43 ?_
          intro v13 μ14 h15
          obtain ⟨rfl, rfl⟩ := h15
          refine JJ_r1 ?_
          refine JJ_istore (lv' := [(6, .int (zbad A p (nI k))), (5, .int (nI k)), (4, .int le), (3, .int wh), (0, .ref x), (1, .int (nI p)), (2, .int what)]) dX11_stand_46 (by decide) rfl ?_
          refine JJ_iload dX11_stand_48 rfl ?_
          refine JJ_iload dX11_stand_50 rfl ?_
          refine JJ_icmp_ge (tgt := 62) dX11_stand_52 (by decide) (fun c16 => ?_) (fun c16 => ?_)
          · skip
            refine JJ_iinc (v := nI (k + 1)) (lv' := [(5, .int (nI (k + 1))), (6, .int (zbad A p (nI k))), (4, .int le), (3, .int wh), (0, .ref x), (1, .int (nI p)), (2, .int what)]) dX11_stand_62 rfl (nI_add (k) 1) (by decide) rfl ?_
            refine JJ_goto (tgt := 32) dX11_stand_65 (by decide) ?_
            refine JJ.pick [0, 2, 3, 4, 5, 6] rfl ?_
            exact ih (k + 1) _ _ (by omega) (by omega) (by rw [show zleast (fun c => zbad A p (nI c)) (k + 1) = zleast (fun c => zbad A p (nI c)) k from if_neg (fun z => z.elim (fun y => hw1 (by rw [← hz] at y; exact y)) (fun y => by rw [← hz] at y; exact Int32.not_lt.mpr c16 y))]; exact hz) hw1
          · skip
            refine JJ_iload dX11_stand_55 rfl ?_
            refine JJ_istore (lv' := [(4, .int (zbad A p (nI k))), (6, .int (zbad A p (nI k))), (5, .int (nI k)), (3, .int wh), (0, .ref x), (1, .int (nI p)), (2, .int what)]) dX11_stand_57 (by decide) rfl ?_
            refine JJ_iload dX11_stand_59 rfl ?_
            refine JJ_istore_n (lv' := [(3, .int (nI k)), (4, .int (zbad A p (nI k))), (6, .int (zbad A p (nI k))), (5, .int (nI k)), (0, .ref x), (1, .int (nI p)), (2, .int what)]) dX11_stand_61 rfl (by decide) rfl ?_
            refine JJ_iinc (v := nI (k + 1)) (lv' := [(5, .int (nI (k + 1))), (3, .int (nI k)), (4, .int (zbad A p (nI k))), (6, .int (zbad A p (nI k))), (0, .ref x), (1, .int (nI p)), (2, .int what)]) dX11_stand_62 rfl (nI_add (k) 1) (by decide) rfl ?_
            refine JJ_goto (tgt := 32) dX11_stand_65 (by decide) ?_
            refine JJ.pick [0, 2, 1, 4, 5, 6] rfl ?_
            exact ih (k + 1) _ _ (by omega) (by omega) (show zleast (fun c => zbad A p (nI c)) (k + 1) = (nI k, zbad A p (nI k)) from if_pos (Or.inr (by rw [← hz]; exact Int32.not_le.mp c16))).symm (fun y => by rw [i_eq, nI_toInt (by omega)] at y; rw [show (-1 : Int32).toInt = -1 from rfl] at y; omega)
      refine JJ.pick [0, 1, 2, 3, 4, 5] rfl ?_
      exact key 24 1 0 (zbad A p 0) (by omega) (by omega) ((if_pos (Or.inl rfl) : zleast (fun c => zbad A p (nI c)) 1 = (nI 0, zbad A p (nI 0)))).symm (by decide)
    · skip
      have e0 : zr_stand A pl what = -100000 := if_pos (fun z => hs2 z.2)
      rw [e0]
      refine KK_of2 [(0, .ref x), (1, .int pl), (2, .int what)] (by decide +kernel) (Nat.le_of_ble_eq_true rfl) rfl ?_
      refine JJ_iload_n dX11_stand_0 rfl rfl ?_
      refine JJ_callS (rest := []) (kc_isPlayer) (by omega) mi_X11_isPlayer lk_X11_115 rfl (Nat.le_of_ble_eq_true rfl) rfl rfl dX11_stand_1 ?_
      intro v17 μ18 h19
      obtain ⟨rfl, rfl⟩ := h19
      refine JJ_r1 ?_
      refine JJ_eqi (x2 := 1) (b2_t hs) ?_
      refine JJ_if_eq (tgt := 16) dX11_stand_4 (by decide) (fun c20 => absurd c20 (by decide)) (fun _ => ?_)
      refine JJ_iload_n dX11_stand_7 rfl rfl ?_
      refine JJ_if_lt (tgt := 16) dX11_stand_8 (by decide) (fun c21 => ?_) (fun c21 => ?_)
      · skip
        refine JJ_ldc (v := (-100000)) dX11_stand_16 tb_824 ?_
        refine JJ_iret dX11_stand_18 rfl ?_
        exact ans_i rfl
      · skip
        refine JJ_iload_n dX11_stand_11 rfl rfl ?_
        refine JJ_iconst (v := 1) dX11_stand_12 rfl ?_
        refine JJ_icmp_le (tgt := 19) dX11_stand_13 (by decide) (fun c22 => absurd c22 (fun y => by have y1 := c21; rw [i_lt] at y1; rw [i_le] at y; exact hs2 ⟨by omega, by omega⟩)) (fun _ => ?_)
        refine JJ_ldc (v := (-100000)) dX11_stand_16 tb_824 ?_
        refine JJ_iret dX11_stand_18 rfl ?_
        exact ans_i rfl
  · skip
    have e0 : zr_stand A pl what = -100000 := if_pos (fun z => hs z.1)
    rw [e0]
    refine KK_of2 [(0, .ref x), (1, .int pl), (2, .int what)] (by decide +kernel) (Nat.le_of_ble_eq_true rfl) rfl ?_
    refine JJ_iload_n dX11_stand_0 rfl rfl ?_
    refine JJ_callS (rest := []) (kc_isPlayer) (by omega) mi_X11_isPlayer lk_X11_115 rfl (Nat.le_of_ble_eq_true rfl) rfl rfl dX11_stand_1 ?_
    intro v23 μ24 h25
    obtain ⟨rfl, rfl⟩ := h25
    refine JJ_r1 ?_
    refine JJ_eqi (x2 := 0) (b2_f hs) ?_
    refine JJ_if_eq (tgt := 16) dX11_stand_4 (by decide) (fun _ => ?_) (fun c26 => absurd (by decide) c26)
    refine JJ_ldc (v := (-100000)) dX11_stand_16 tb_824 ?_
    refine JJ_iret dX11_stand_18 rfl ?_
    exact ans_i rfl
end C13
