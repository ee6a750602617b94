section C4
variable {G : Gx} {sc : Nat → Nat → Prop} {n : Nat} {S : Nat → Nat × Nat} {M : Nat → Nat → Int32} {L : Nat → Nat → Int64} {P : Nat → Nat → Option Nat} {x : Nat}

set_option maxHeartbeats 4000000 in
set_option maxRecDepth 100000 in
theorem kc_reckonP {t who w : Nat} {E : RuleF} {warm far number cell : Int32} (h3 : w < 3) (hE : TXC t M E) (hw : (S who).1 = 7) (hwt : who < t ∨ t + 5 ≤ who) (hsw : ∀ k, ¬ sc who k) (ht : TSH t S P) (hx : HT t sc) : KK G sc yX10_reckon cX10_reckon 9 (some .int) 2 0 0 [.ref t, .int (nI w), .ref who, .int warm, .int far, .int number, .int cell] (n, S, M, L, P) (fun v μ => v = some (.int (E w far warm (M who 1) (M who 2) number cell)) ∧ ∃ M', μ = (n, S, M', L, P) ∧ ∀ b k, b ≠ t + 2 → b ≠ t + 3 → M' b k = M b k) := by
  obtain ⟨c0, c1, c2, d0, d1, d2, rfl, v0, v1, v2, hlen, e0, e1, e2, hcode⟩ := hE
  rcases (by omega : w = 0 ∨ w = 1 ∨ w = 2) with rfl | rfl | rfl
  · skip
    refine KK_of2 [(0, .ref t), (1, .int 0), (2, .ref who), (3, .int warm), (4, .int far), (5, .int number), (6, .int cell)] (by decide +kernel) (Nat.le_of_ble_eq_true rfl) rfl ?_
    refine JJ_iload_n dX10_reckon_0 rfl rfl ?_
    refine JJ_if_lt (tgt := 13) dX10_reckon_1 (by decide) (fun c1 => absurd c1 (by decide)) (fun _ => ?_)
    refine JJ_iload_n dX10_reckon_4 rfl rfl ?_
    refine JJ_aload_n dX10_reckon_5 rfl rfl ?_
    refine JJ_getr (q := t + 4) (cis := [10]) (k := 4) fa_X10_21 (by decide) ht.1 rfl ht.2.2.2.2.2.2.2.2 dX10_reckon_6 ?_
    refine JJ_alen (t := 0) ht.2.2.2.2.1 (by decide) dX10_reckon_9 ?_
    refine JJ_icmp_lt (tgt := 15) dX10_reckon_10 (by decide) (fun _ => ?_) (fun c2 => absurd (by decide) c2)
    refine JJ_aload_n dX10_reckon_15 rfl rfl ?_
    refine JJ_getr (q := t + 3) (cis := [10]) (k := 3) fa_X10_18 (by decide) ht.1 rfl ht.2.2.2.2.2.2.2.1 dX10_reckon_16 ?_
    refine JJ_iconst (v := 0) dX10_reckon_19 rfl ?_
    refine JJ_iload dX10_reckon_20 rfl ?_
    refine JJ_iastX ht.2.2.2.1 (IX_of (j := 0) rfl (by decide) (by decide)) dX10_reckon_22 (fun M3 hM4 => ?_)
    refine JJ_aload_n dX10_reckon_23 rfl rfl ?_
    refine JJ_getr (q := t + 3) (cis := [10]) (k := 3) fa_X10_18 (by decide) ht.1 rfl ht.2.2.2.2.2.2.2.1 dX10_reckon_24 ?_
    refine JJ_iconst (v := 1) dX10_reckon_27 rfl ?_
    refine JJ_iload_n dX10_reckon_28 rfl rfl ?_
    refine JJ_iastX ht.2.2.2.1 (IX_of (j := 1) rfl (by decide) (by decide)) dX10_reckon_29 (fun M5 hM6 => ?_)
    refine JJ_aload_n dX10_reckon_30 rfl rfl ?_
    refine JJ_getr (q := t + 3) (cis := [10]) (k := 3) fa_X10_18 (by decide) ht.1 rfl ht.2.2.2.2.2.2.2.1 dX10_reckon_31 ?_
    refine JJ_iconst (v := 2) dX10_reckon_34 rfl ?_
    refine JJ_aload_n dX10_reckon_35 rfl rfl ?_
    refine JJ_geti (v := M who 1) (cis := [6]) (k := 1) fa_X10_31 (by decide) hw rfl (hsw 1) (rd_n hM6 (by omega) (rd_n hM4 (by omega) rfl)) dX10_reckon_36 ?_
    refine JJ_iastX ht.2.2.2.1 (IX_of (j := 2) rfl (by decide) (by decide)) dX10_reckon_39 (fun M7 hM8 => ?_)
    refine JJ_aload_n dX10_reckon_40 rfl rfl ?_
    refine JJ_getr (q := t + 3) (cis := [10]) (k := 3) fa_X10_18 (by decide) ht.1 rfl ht.2.2.2.2.2.2.2.1 dX10_reckon_41 ?_
    refine JJ_iconst (v := 3) dX10_reckon_44 rfl ?_
    refine JJ_aload_n dX10_reckon_45 rfl rfl ?_
    refine JJ_geti (v := M who 2) (cis := [6]) (k := 2) fa_X10_36 (by decide) hw rfl (hsw 2) (rd_n hM8 (by omega) (rd_n hM6 (by omega) (rd_n hM4 (by omega) rfl))) dX10_reckon_46 ?_
    refine JJ_iastX ht.2.2.2.1 (IX_of (j := 3) rfl (by decide) (by decide)) dX10_reckon_49 (fun M9 hM10 => ?_)
    refine JJ_aload_n dX10_reckon_50 rfl rfl ?_
    refine JJ_getr (q := t + 3) (cis := [10]) (k := 3) fa_X10_18 (by decide) ht.1 rfl ht.2.2.2.2.2.2.2.1 dX10_reckon_51 ?_
    refine JJ_iconst (v := 4) dX10_reckon_54 rfl ?_
    refine JJ_iload dX10_reckon_55 rfl ?_
    refine JJ_iastX ht.2.2.2.1 (IX_of (j := 4) rfl (by decide) (by decide)) dX10_reckon_57 (fun M11 hM12 => ?_)
    refine JJ_aload_n dX10_reckon_58 rfl rfl ?_
    refine JJ_getr (q := t + 3) (cis := [10]) (k := 3) fa_X10_18 (by decide) ht.1 rfl ht.2.2.2.2.2.2.2.1 dX10_reckon_59 ?_
    refine JJ_iconst (v := 5) dX10_reckon_62 rfl ?_
    refine JJ_iload dX10_reckon_63 rfl ?_
    refine JJ_iastX ht.2.2.2.1 (IX_of (j := 5) rfl (by decide) (by decide)) dX10_reckon_65 (fun M13 hM14 => ?_)
    refine JJ_iconst (v := 0) dX10_reckon_66 rfl ?_
    refine JJ_istore (lv' := [(7, .int 0), (0, .ref t), (1, .int 0), (2, .ref who), (3, .int warm), (4, .int far), (5, .int number), (6, .int cell)]) dX10_reckon_67 (by decide) rfl ?_
    refine JJ_iload_n dX10_reckon_69 rfl rfl ?_
    refine JJ_if_ne (tgt := 77) dX10_reckon_70 (by decide) (fun c15 => absurd (by decide) c15) (fun _ => ?_)
    refine JJ_iconst (v := 0) dX10_reckon_73 rfl ?_
    refine JJ_goto (tgt := 85) dX10_reckon_74 (by decide) ?_
    refine JJ_istore (lv' := [(8, .int 0), (7, .int 0), (0, .ref t), (1, .int 0), (2, .ref who), (3, .int warm), (4, .int far), (5, .int number), (6, .int cell)]) dX10_reckon_85 (by decide) rfl ?_
    have hf6 : ∀ b k, b ≠ t + 3 → M13 b k = M b k := fun b k z => (rd_n hM14 (by omega) (rd_n hM12 (by omega) (rd_n hM10 (by omega) (rd_n hM8 (by omega) (rd_n hM6 (by omega) (rd_n hM4 (by omega) rfl))))))
    have hnm : ∀ k, k < 6 → M13 (t + 3) k = (nms far warm (M who 1) (M who 2) number cell) k := by
      intro k hk
      match k, hk with
      | 0, _ => exact (rd_n hM14 (by omega) (rd_n hM12 (by omega) (rd_n hM10 (by omega) (rd_n hM8 (by omega) (rd_n hM6 (by omega) (rd_s hM4))))))
      | 1, _ => exact (rd_n hM14 (by omega) (rd_n hM12 (by omega) (rd_n hM10 (by omega) (rd_n hM8 (by omega) (rd_s hM6)))))
      | 2, _ => exact (rd_n hM14 (by omega) (rd_n hM12 (by omega) (rd_n hM10 (by omega) (rd_s hM8))))
      | 3, _ => exact (rd_n hM14 (by omega) (rd_n hM12 (by omega) (rd_s hM10)))
      | 4, _ => exact (rd_n hM14 (by omega) (rd_s hM12))
      | 5, _ => exact (rd_s hM14)
    have key : ∀ (c : List Int32) (i : Nat) (st : List Int32) (M7x : Nat → Nat → Int32), i + c.length = c0.length → (∀ j, j < c.length → M (t + 1) (i + j) = c.getD j 0) → SR t M7x st → st.length ≤ i → (∀ b l, b ≠ t + 2 → M7x b l = M13 b l) → crun (nms far warm (M who 1) (M who 2) number cell) c st = [d0 (nms far warm (M who 1) (M who 2) number cell)] → JJ G sc yX10_reckon cX10_reckon 9 (some .int) 2 0 0 (fun v μ => v = some (.int (zEf d0 d1 d2 0 far warm (M who 1) (M who 2) number cell)) ∧ ∃ M', μ = (n, S, M', L, P) ∧ ∀ b k, b ≠ t + 2 → b ≠ t + 3 → M' b k = M b k) 87 [(8, .int (nI i)), (7, .int (nI st.length)), (0, .ref t), (1, .int 0)] [] (n, S, M7x, L, P) := by
      intro c
      induction c with
      | nil =>
        intro i st M7x hi hc hs hl hf hr
        have hi : i = c0.length := hi
        have hr : st = [d0 (nms far warm (M who 1) (M who 2) number cell)] := hr
        subst hr
        refine JJ_iload dX10_reckon_87 rfl ?_
        refine JJ_aload_n dX10_reckon_89 rfl rfl ?_
        refine JJ_getr (q := t + 4) (cis := [10]) (k := 4) fa_X10_21 (by decide) ht.1 rfl ht.2.2.2.2.2.2.2.2 dX10_reckon_90 ?_
        refine JJ_iload_n dX10_reckon_93 rfl rfl ?_
        refine JJ_ialdX (v := nI c0.length) ht.2.2.2.2.1 (IX_of (j := 0) rfl (by decide) (by decide)) (hx _ _ (by omega)) ((hf _ _ (by omega)).trans ((hf6 _ _ (by omega)).trans e0)) dX10_reckon_94 ?_
        refine JJ_icmp_ge (tgt := 129) dX10_reckon_95 (by decide) (fun _ => ?_) (fun c16 => absurd (nI_le (by omega) (by omega)) c16)
        refine JJ_iload dX10_reckon_129 rfl ?_
        refine JJ_if_le (tgt := 146) dX10_reckon_131 (by decide) (fun c17 => absurd c17 (show ¬ nI 1 ≤ 0 by decide)) (fun _ => ?_)
        refine JJ_aload_n dX10_reckon_134 rfl rfl ?_
        refine JJ_getr (q := t + 2) (cis := [10]) (k := 2) fa_X10_15 (by decide) ht.1 rfl ht.2.2.2.2.2.2.1 dX10_reckon_135 ?_
        refine JJ_iload dX10_reckon_138 rfl ?_
        refine JJ_iconst (v := 1) dX10_reckon_140 rfl ?_
        refine JJ_isub dX10_reckon_141 ?_
        refine JJ_eqi (x2 := 0) (show nI 1 - 1 = 0 by decide) ?_
        refine JJ_ialdX (v := d0 (nms far warm (M who 1) (M who 2) number cell)) ht.2.2.1 (IX_of (j := 0) rfl (by decide) (by decide)) (hx _ _ (by omega)) (hs 0 (by exact Nat.succ_pos 0)) dX10_reckon_142 ?_
        refine JJ_goto (tgt := 147) dX10_reckon_143 (by decide) ?_
        refine JJ_iret dX10_reckon_147 rfl ?_
        exact ⟨rfl, M7x, rfl, fun b l z1 z2 => (hf b l z1).trans (hf6 b l z2)⟩
      | cons op c ih =>
        intro i st M7x hi hc hs hl hf hr
        have hi : i + (c.length + 1) = c0.length := hi
        refine JJ_iload dX10_reckon_87 rfl ?_
        refine JJ_aload_n dX10_reckon_89 rfl rfl ?_
        refine JJ_getr (q := t + 4) (cis := [10]) (k := 4) fa_X10_21 (by decide) ht.1 rfl ht.2.2.2.2.2.2.2.2 dX10_reckon_90 ?_
        refine JJ_iload_n dX10_reckon_93 rfl rfl ?_
        refine JJ_ialdX (v := nI c0.length) ht.2.2.2.2.1 (IX_of (j := 0) rfl (by decide) (by decide)) (hx _ _ (by omega)) ((hf _ _ (by omega)).trans ((hf6 _ _ (by omega)).trans e0)) dX10_reckon_94 ?_
        refine JJ_icmp_ge (tgt := 129) dX10_reckon_95 (by decide) (fun c18 => absurd c18 (nI_ge (by omega) (by omega))) (fun _ => ?_)
        refine JJ_iload dX10_reckon_98 rfl ?_
        refine JJ_aload_n dX10_reckon_100 rfl rfl ?_
        refine JJ_getr (q := t + 1) (cis := [10]) (k := 1) fa_X10_9 (by decide) ht.1 rfl ht.2.2.2.2.2.1 dX10_reckon_101 ?_
        refine JJ_alen (t := 0) ht.2.1 (by decide) dX10_reckon_104 ?_
        refine JJ_icmp_ge (tgt := 129) dX10_reckon_105 (by decide) (fun c19 => absurd c19 (nI_ge (b := 160) (by omega) (by omega))) (fun _ => ?_)
        refine JJ_aload_n dX10_reckon_108 rfl rfl ?_
        refine JJ_aload_n dX10_reckon_109 rfl rfl ?_
        refine JJ_getr (q := t + 1) (cis := [10]) (k := 1) fa_X10_9 (by decide) ht.1 rfl ht.2.2.2.2.2.1 dX10_reckon_110 ?_
        refine JJ_iload dX10_reckon_113 rfl ?_
        refine JJ_ialdX (v := op) ht.2.1 (IX_nI (by omega) (by omega)) (hx _ _ (by omega)) ((hf _ _ (by omega)).trans ((hf6 _ _ (by omega)).trans (hc 0 (Nat.succ_pos _)))) dX10_reckon_115 ?_
        refine JJ_iload dX10_reckon_116 rfl ?_
        refine JJ_callV (rest := []) ht.1 rfl rfl (kc_work (nm := (nms far warm (M who 1) (M who 2) number cell)) (st := st) (op := op) (by omega) hs (fun q hq => (hf _ _ (by omega)).trans (hnm q hq)) ht hx) (by omega) mi_X10_work lk_X10_39 rfl (Nat.le_of_ble_eq_true rfl) rfl rfl dX10_reckon_118 ?_
        intro v20 μ21 h22
        obtain ⟨rfl, M8x, rfl, hs8, hf8⟩ := h22
        refine JJ_r1 ?_
        refine JJ_istore (lv' := [(7, .int (nI (crun1 (nms far warm (M who 1) (M who 2) number cell) st op).length)), (8, .int (nI i)), (0, .ref t), (1, .int 0)]) dX10_reckon_121 (by decide) rfl ?_
        refine JJ_iinc (v := nI (i + 1)) (lv' := [(8, .int (nI (i + 1))), (7, .int (nI (crun1 (nms far warm (M who 1) (M who 2) number cell) st op).length)), (0, .ref t), (1, .int 0)]) dX10_reckon_123 rfl (nI_add (i) 1) (by decide) rfl ?_
        refine JJ_goto (tgt := 87) dX10_reckon_126 (by decide) ?_
        refine JJ.pick [0, 1, 2, 3] rfl ?_
        exact ih (i + 1) (crun1 (nms far warm (M who 1) (M who 2) number cell) st op) M8x (by omega) (fun j hj => by rw [show i + 1 + j = i + (j + 1) by omega]; exact hc (j + 1) (Nat.succ_lt_succ hj)) hs8 (by have := crun1_len (nm := (nms far warm (M who 1) (M who 2) number cell)) (st := st) (op := op); omega) (fun b l z => (hf8 b l z).trans (hf b l z)) hr
    refine JJ.pick [0, 1, 2, 3] rfl ?_
    exact key c0 0 [] M13 (by omega) (fun j hj => by rw [Nat.zero_add]; exact (hcode j (by omega)).trans (by rw [List.getD_eq_getElem?_getD, List.getElem?_append_left (by rw [List.length_append]; omega), List.getElem?_append_left hj, ← List.getD_eq_getElem?_getD])) (fun j hj => absurd hj (Nat.not_lt_zero _)) (Nat.zero_le _) (fun _ _ _ => rfl) (v0 _ _)
  · skip
    refine KK_of2 [(0, .ref t), (1, .int 1), (2, .ref who), (3, .int warm), (4, .int far), (5, .int number), (6, .int cell)] (by decide +kernel) (Nat.le_of_ble_eq_true rfl) rfl ?_
    refine JJ_iload_n dX10_reckon_0 rfl rfl ?_
    refine JJ_if_lt (tgt := 13) dX10_reckon_1 (by decide) (fun c23 => absurd c23 (by decide)) (fun _ => ?_)
    refine JJ_iload_n dX10_reckon_4 rfl rfl ?_
    refine JJ_aload_n dX10_reckon_5 rfl rfl ?_
    refine JJ_getr (q := t + 4) (cis := [10]) (k := 4) fa_X10_21 (by decide) ht.1 rfl ht.2.2.2.2.2.2.2.2 dX10_reckon_6 ?_
    refine JJ_alen (t := 0) ht.2.2.2.2.1 (by decide) dX10_reckon_9 ?_
    refine JJ_icmp_lt (tgt := 15) dX10_reckon_10 (by decide) (fun _ => ?_) (fun c24 => absurd (by decide) c24)
    refine JJ_aload_n dX10_reckon_15 rfl rfl ?_
    refine JJ_getr (q := t + 3) (cis := [10]) (k := 3) fa_X10_18 (by decide) ht.1 rfl ht.2.2.2.2.2.2.2.1 dX10_reckon_16 ?_
    refine JJ_iconst (v := 0) dX10_reckon_19 rfl ?_
    refine JJ_iload dX10_reckon_20 rfl ?_
    refine JJ_iastX ht.2.2.2.1 (IX_of (j := 0) rfl (by decide) (by decide)) dX10_reckon_22 (fun M25 hM26 => ?_)
    refine JJ_aload_n dX10_reckon_23 rfl rfl ?_
    refine JJ_getr (q := t + 3) (cis := [10]) (k := 3) fa_X10_18 (by decide) ht.1 rfl ht.2.2.2.2.2.2.2.1 dX10_reckon_24 ?_
    refine JJ_iconst (v := 1) dX10_reckon_27 rfl ?_
    refine JJ_iload_n dX10_reckon_28 rfl rfl ?_
    refine JJ_iastX ht.2.2.2.1 (IX_of (j := 1) rfl (by decide) (by decide)) dX10_reckon_29 (fun M27 hM28 => ?_)
    refine JJ_aload_n dX10_reckon_30 rfl rfl ?_
    refine JJ_getr (q := t + 3) (cis := [10]) (k := 3) fa_X10_18 (by decide) ht.1 rfl ht.2.2.2.2.2.2.2.1 dX10_reckon_31 ?_
    refine JJ_iconst (v := 2) dX10_reckon_34 rfl ?_
    refine JJ_aload_n dX10_reckon_35 rfl rfl ?_
    refine JJ_geti (v := M who 1) (cis := [6]) (k := 1) fa_X10_31 (by decide) hw rfl (hsw 1) (rd_n hM28 (by omega) (rd_n hM26 (by omega) rfl)) dX10_reckon_36 ?_
    refine JJ_iastX ht.2.2.2.1 (IX_of (j := 2) rfl (by decide) (by decide)) dX10_reckon_39 (fun M29 hM30 => ?_)
    refine JJ_aload_n dX10_reckon_40 rfl rfl ?_
    refine JJ_getr (q := t + 3) (cis := [10]) (k := 3) fa_X10_18 (by decide) ht.1 rfl ht.2.2.2.2.2.2.2.1 dX10_reckon_41 ?_
    refine JJ_iconst (v := 3) dX10_reckon_44 rfl ?_
    refine JJ_aload_n dX10_reckon_45 rfl rfl ?_
    refine JJ_geti (v := M who 2) (cis := [6]) (k := 2) fa_X10_36 (by decide) hw rfl (hsw 2) (rd_n hM30 (by omega) (rd_n hM28 (by omega) (rd_n hM26 (by omega) rfl))) dX10_reckon_46 ?_
    refine JJ_iastX ht.2.2.2.1 (IX_of (j := 3) rfl (by decide) (by decide)) dX10_reckon_49 (fun M31 hM32 => ?_)
    refine JJ_aload_n dX10_reckon_50 rfl rfl ?_
    refine JJ_getr (q := t + 3) (cis := [10]) (k := 3) fa_X10_18 (by decide) ht.1 rfl ht.2.2.2.2.2.2.2.1 dX10_reckon_51 ?_
    refine JJ_iconst (v := 4) dX10_reckon_54 rfl ?_
    refine JJ_iload dX10_reckon_55 rfl ?_
    refine JJ_iastX ht.2.2.2.1 (IX_of (j := 4) rfl (by decide) (by decide)) dX10_reckon_57 (fun M33 hM34 => ?_)
    refine JJ_aload_n dX10_reckon_58 rfl rfl ?_
    refine JJ_getr (q := t + 3) (cis := [10]) (k := 3) fa_X10_18 (by decide) ht.1 rfl ht.2.2.2.2.2.2.2.1 dX10_reckon_59 ?_
    refine JJ_iconst (v := 5) dX10_reckon_62 rfl ?_
    refine JJ_iload dX10_reckon_63 rfl ?_
    refine JJ_iastX ht.2.2.2.1 (IX_of (j := 5) rfl (by decide) (by decide)) dX10_reckon_65 (fun M35 hM36 => ?_)
    refine JJ_iconst (v := 0) dX10_reckon_66 rfl ?_
    refine JJ_istore (lv' := [(7, .int 0), (0, .ref t), (1, .int 1), (2, .ref who), (3, .int warm), (4, .int far), (5, .int number), (6, .int cell)]) dX10_reckon_67 (by decide) rfl ?_
    refine JJ_iload_n dX10_reckon_69 rfl rfl ?_
    refine JJ_if_ne (tgt := 77) dX10_reckon_70 (by decide) (fun _ => ?_) (fun c37 => absurd c37 (by decide))
    refine JJ_aload_n dX10_reckon_77 rfl rfl ?_
    refine JJ_getr (q := t + 4) (cis := [10]) (k := 4) fa_X10_21 (by decide) ht.1 rfl ht.2.2.2.2.2.2.2.2 dX10_reckon_78 ?_
    refine JJ_iload_n dX10_reckon_81 rfl rfl ?_
    refine JJ_iconst (v := 1) dX10_reckon_82 rfl ?_
    refine JJ_isub dX10_reckon_83 ?_
    refine JJ_eqi (x2 := 0) (by decide) ?_
    refine JJ_ialdX (v := nI c0.length) ht.2.2.2.2.1 (IX_of (j := 0) rfl (by decide) (by decide)) (hx _ _ (by omega)) (rd_n hM36 (by omega) (rd_n hM34 (by omega) (rd_n hM32 (by omega) (rd_n hM30 (by omega) (rd_n hM28 (by omega) (rd_n hM26 (by omega) e0)))))) dX10_reckon_84 ?_
    refine JJ_istore (lv' := [(8, .int (nI c0.length)), (7, .int 0), (0, .ref t), (1, .int 1), (2, .ref who), (3, .int warm), (4, .int far), (5, .int number), (6, .int cell)]) dX10_reckon_85 (by decide) rfl ?_
    have hf6 : ∀ b k, b ≠ t + 3 → M35 b k = M b k := fun b k z => (rd_n hM36 (by omega) (rd_n hM34 (by omega) (rd_n hM32 (by omega) (rd_n hM30 (by omega) (rd_n hM28 (by omega) (rd_n hM26 (by omega) rfl))))))
    have hnm : ∀ k, k < 6 → M35 (t + 3) k = (nms far warm (M who 1) (M who 2) number cell) k := by
      intro k hk
      match k, hk with
      | 0, _ => exact (rd_n hM36 (by omega) (rd_n hM34 (by omega) (rd_n hM32 (by omega) (rd_n hM30 (by omega) (rd_n hM28 (by omega) (rd_s hM26))))))
      | 1, _ => exact (rd_n hM36 (by omega) (rd_n hM34 (by omega) (rd_n hM32 (by omega) (rd_n hM30 (by omega) (rd_s hM28)))))
      | 2, _ => exact (rd_n hM36 (by omega) (rd_n hM34 (by omega) (rd_n hM32 (by omega) (rd_s hM30))))
      | 3, _ => exact (rd_n hM36 (by omega) (rd_n hM34 (by omega) (rd_s hM32)))
      | 4, _ => exact (rd_n hM36 (by omega) (rd_s hM34))
      | 5, _ => exact (rd_s hM36)
    have key : ∀ (c : List Int32) (i : Nat) (st : List Int32) (M7x : Nat → Nat → Int32), i + c.length = c0.length + c1.length → (∀ j, j < c.length → M (t + 1) (i + j) = c.getD j 0) → SR t M7x st → st.length ≤ i → (∀ b l, b ≠ t + 2 → M7x b l = M35 b l) → crun (nms far warm (M who 1) (M who 2) number cell) c st = [d1 (nms far warm (M who 1) (M who 2) number cell)] → JJ G sc yX10_reckon cX10_reckon 9 (some .int) 2 0 0 (fun v μ => v = some (.int (zEf d0 d1 d2 1 far warm (M who 1) (M who 2) number cell)) ∧ ∃ M', μ = (n, S, M', L, P) ∧ ∀ b k, b ≠ t + 2 → b ≠ t + 3 → M' b k = M b k) 87 [(8, .int (nI i)), (7, .int (nI st.length)), (0, .ref t), (1, .int 1)] [] (n, S, M7x, L, P) := by
      intro c
      induction c with
      | nil =>
        intro i st M7x hi hc hs hl hf hr
        have hi : i = c0.length + c1.length := hi
        have hr : st = [d1 (nms far warm (M who 1) (M who 2) number cell)] := hr
        subst hr
        refine JJ_iload dX10_reckon_87 rfl ?_
        refine JJ_aload_n dX10_reckon_89 rfl rfl ?_
        refine JJ_getr (q := t + 4) (cis := [10]) (k := 4) fa_X10_21 (by decide) ht.1 rfl ht.2.2.2.2.2.2.2.2 dX10_reckon_90 ?_
        refine JJ_iload_n dX10_reckon_93 rfl rfl ?_
        refine JJ_ialdX (v := nI (c0.length + c1.length)) ht.2.2.2.2.1 (IX_of (j := 1) rfl (by decide) (by decide)) (hx _ _ (by omega)) ((hf _ _ (by omega)).trans ((hf6 _ _ (by omega)).trans e1)) dX10_reckon_94 ?_
        refine JJ_icmp_ge (tgt := 129) dX10_reckon_95 (by decide) (fun _ => ?_) (fun c38 => absurd (nI_le (by omega) (by omega)) c38)
        refine JJ_iload dX10_reckon_129 rfl ?_
        refine JJ_if_le (tgt := 146) dX10_reckon_131 (by decide) (fun c39 => absurd c39 (show ¬ nI 1 ≤ 0 by decide)) (fun _ => ?_)
        refine JJ_aload_n dX10_reckon_134 rfl rfl ?_
        refine JJ_getr (q := t + 2) (cis := [10]) (k := 2) fa_X10_15 (by decide) ht.1 rfl ht.2.2.2.2.2.2.1 dX10_reckon_135 ?_
        refine JJ_iload dX10_reckon_138 rfl ?_
        refine JJ_iconst (v := 1) dX10_reckon_140 rfl ?_
        refine JJ_isub dX10_reckon_141 ?_
        refine JJ_eqi (x2 := 0) (show nI 1 - 1 = 0 by decide) ?_
        refine JJ_ialdX (v := d1 (nms far warm (M who 1) (M who 2) number cell)) ht.2.2.1 (IX_of (j := 0) rfl (by decide) (by decide)) (hx _ _ (by omega)) (hs 0 (by exact Nat.succ_pos 0)) dX10_reckon_142 ?_
        refine JJ_goto (tgt := 147) dX10_reckon_143 (by decide) ?_
        refine JJ_iret dX10_reckon_147 rfl ?_
        exact ⟨rfl, M7x, rfl, fun b l z1 z2 => (hf b l z1).trans (hf6 b l z2)⟩
      | cons op c ih =>
        intro i st M7x hi hc hs hl hf hr
        have hi : i + (c.length + 1) = c0.length + c1.length := hi
        refine JJ_iload dX10_reckon_87 rfl ?_
        refine JJ_aload_n dX10_reckon_89 rfl rfl ?_
        refine JJ_getr (q := t + 4) (cis := [10]) (k := 4) fa_X10_21 (by decide) ht.1 rfl ht.2.2.2.2.2.2.2.2 dX10_reckon_90 ?_
        refine JJ_iload_n dX10_reckon_93 rfl rfl ?_
        refine JJ_ialdX (v := nI (c0.length + c1.length)) ht.2.2.2.2.1 (IX_of (j := 1) rfl (by decide) (by decide)) (hx _ _ (by omega)) ((hf _ _ (by omega)).trans ((hf6 _ _ (by omega)).trans e1)) dX10_reckon_94 ?_
        refine JJ_icmp_ge (tgt := 129) dX10_reckon_95 (by decide) (fun c40 => absurd c40 (nI_ge (by omega) (by omega))) (fun _ => ?_)
        refine JJ_iload dX10_reckon_98 rfl ?_
        refine JJ_aload_n dX10_reckon_100 rfl rfl ?_
        refine JJ_getr (q := t + 1) (cis := [10]) (k := 1) fa_X10_9 (by decide) ht.1 rfl ht.2.2.2.2.2.1 dX10_reckon_101 ?_
        refine JJ_alen (t := 0) ht.2.1 (by decide) dX10_reckon_104 ?_
        refine JJ_icmp_ge (tgt := 129) dX10_reckon_105 (by decide) (fun c41 => absurd c41 (nI_ge (b := 160) (by omega) (by omega))) (fun _ => ?_)
        refine JJ_aload_n dX10_reckon_108 rfl rfl ?_
        refine JJ_aload_n dX10_reckon_109 rfl rfl ?_
        refine JJ_getr (q := t + 1) (cis := [10]) (k := 1) fa_X10_9 (by decide) ht.1 rfl ht.2.2.2.2.2.1 dX10_reckon_110 ?_
        refine JJ_iload dX10_reckon_113 rfl ?_
        refine JJ_ialdX (v := op) ht.2.1 (IX_nI (by omega) (by omega)) (hx _ _ (by omega)) ((hf _ _ (by omega)).trans ((hf6 _ _ (by omega)).trans (hc 0 (Nat.succ_pos _)))) dX10_reckon_115 ?_
        refine JJ_iload dX10_reckon_116 rfl ?_
        refine JJ_callV (rest := []) ht.1 rfl rfl (kc_work (nm := (nms far warm (M who 1) (M who 2) number cell)) (st := st) (op := op) (by omega) hs (fun q hq => (hf _ _ (by omega)).trans (hnm q hq)) ht hx) (by omega) mi_X10_work lk_X10_39 rfl (Nat.le_of_ble_eq_true rfl) rfl rfl dX10_reckon_118 ?_
        intro v42 μ43 h44
        obtain ⟨rfl, M8x, rfl, hs8, hf8⟩ := h44
        refine JJ_r1 ?_
        refine JJ_istore (lv' := [(7, .int (nI (crun1 (nms far warm (M who 1) (M who 2) number cell) st op).length)), (8, .int (nI i)), (0, .ref t), (1, .int 1)]) dX10_reckon_121 (by decide) rfl ?_
        refine JJ_iinc (v := nI (i + 1)) (lv' := [(8, .int (nI (i + 1))), (7, .int (nI (crun1 (nms far warm (M who 1) (M who 2) number cell) st op).length)), (0, .ref t), (1, .int 1)]) dX10_reckon_123 rfl (nI_add (i) 1) (by decide) rfl ?_
        refine JJ_goto (tgt := 87) dX10_reckon_126 (by decide) ?_
        refine JJ.pick [0, 1, 2, 3] rfl ?_
        exact ih (i + 1) (crun1 (nms far warm (M who 1) (M who 2) number cell) st op) M8x (by omega) (fun j hj => by rw [show i + 1 + j = i + (j + 1) by omega]; exact hc (j + 1) (Nat.succ_lt_succ hj)) hs8 (by have := crun1_len (nm := (nms far warm (M who 1) (M who 2) number cell)) (st := st) (op := op); omega) (fun b l z => (hf8 b l z).trans (hf b l z)) hr
    refine JJ.pick [0, 1, 2, 3] rfl ?_
    exact key c1 c0.length [] M35 (by omega) (fun j hj => (hcode _ (by omega)).trans (by rw [List.getD_eq_getElem?_getD, List.getElem?_append_left (by rw [List.length_append]; omega), List.getElem?_append_right (by omega), Nat.add_sub_cancel_left, ← List.getD_eq_getElem?_getD])) (fun j hj => absurd hj (Nat.not_lt_zero _)) (Nat.zero_le _) (fun _ _ _ => rfl) (v1 _ _)
  · skip
    refine KK_of2 [(0, .ref t), (1, .int 2), (2, .ref who), (3, .int warm), (4, .int far), (5, .int number), (6, .int cell)] (by decide +kernel) (Nat.le_of_ble_eq_true rfl) rfl ?_
    refine JJ_iload_n dX10_reckon_0 rfl rfl ?_
    refine JJ_if_lt (tgt := 13) dX10_reckon_1 (by decide) (fun c45 => absurd c45 (by decide)) (fun _ => ?_)
    refine JJ_iload_n dX10_reckon_4 rfl rfl ?_
    refine JJ_aload_n dX10_reckon_5 rfl rfl ?_
    refine JJ_getr (q := t + 4) (cis := [10]) (k := 4) fa_X10_21 (by decide) ht.1 rfl ht.2.2.2.2.2.2.2.2 dX10_reckon_6 ?_
    refine JJ_alen (t := 0) ht.2.2.2.2.1 (by decide) dX10_reckon_9 ?_
    refine JJ_icmp_lt (tgt := 15) dX10_reckon_10 (by decide) (fun _ => ?_) (fun c46 => absurd (by decide) c46)
    refine JJ_aload_n dX10_reckon_15 rfl rfl ?_
    refine JJ_getr (q := t + 3) (cis := [10]) (k := 3) fa_X10_18 (by decide) ht.1 rfl ht.2.2.2.2.2.2.2.1 dX10_reckon_16 ?_
    refine JJ_iconst (v := 0) dX10_reckon_19 rfl ?_
    refine JJ_iload dX10_reckon_20 rfl ?_
    refine JJ_iastX ht.2.2.2.1 (IX_of (j := 0) rfl (by decide) (by decide)) dX10_reckon_22 (fun M47 hM48 => ?_)
    refine JJ_aload_n dX10_reckon_23 rfl rfl ?_
    refine JJ_getr (q := t + 3) (cis := [10]) (k := 3) fa_X10_18 (by decide) ht.1 rfl ht.2.2.2.2.2.2.2.1 dX10_reckon_24 ?_
    refine JJ_iconst (v := 1) dX10_reckon_27 rfl ?_
    refine JJ_iload_n dX10_reckon_28 rfl rfl ?_
    refine JJ_iastX ht.2.2.2.1 (IX_of (j := 1) rfl (by decide) (by decide)) dX10_reckon_29 (fun M49 hM50 => ?_)
    refine JJ_aload_n dX10_reckon_30 rfl rfl ?_
    refine JJ_getr (q := t + 3) (cis := [10]) (k := 3) fa_X10_18 (by decide) ht.1 rfl ht.2.2.2.2.2.2.2.1 dX10_reckon_31 ?_
    refine JJ_iconst (v := 2) dX10_reckon_34 rfl ?_
    refine JJ_aload_n dX10_reckon_35 rfl rfl ?_
    refine JJ_geti (v := M who 1) (cis := [6]) (k := 1) fa_X10_31 (by decide) hw rfl (hsw 1) (rd_n hM50 (by omega) (rd_n hM48 (by omega) rfl)) dX10_reckon_36 ?_
    refine JJ_iastX ht.2.2.2.1 (IX_of (j := 2) rfl (by decide) (by decide)) dX10_reckon_39 (fun M51 hM52 => ?_)
    refine JJ_aload_n dX10_reckon_40 rfl rfl ?_
    refine JJ_getr (q := t + 3) (cis := [10]) (k := 3) fa_X10_18 (by decide) ht.1 rfl ht.2.2.2.2.2.2.2.1 dX10_reckon_41 ?_
    refine JJ_iconst (v := 3) dX10_reckon_44 rfl ?_
    refine JJ_aload_n dX10_reckon_45 rfl rfl ?_
    refine JJ_geti (v := M who 2) (cis := [6]) (k := 2) fa_X10_36 (by decide) hw rfl (hsw 2) (rd_n hM52 (by omega) (rd_n hM50 (by omega) (rd_n hM48 (by omega) rfl))) dX10_reckon_46 ?_
    refine JJ_iastX ht.2.2.2.1 (IX_of (j := 3) rfl (by decide) (by decide)) dX10_reckon_49 (fun M53 hM54 => ?_)
    refine JJ_aload_n dX10_reckon_50 rfl rfl ?_
    refine JJ_getr (q := t + 3) (cis := [10]) (k := 3) fa_X10_18 (by decide) ht.1 rfl ht.2.2.2.2.2.2.2.1 dX10_reckon_51 ?_
    refine JJ_iconst (v := 4) dX10_reckon_54 rfl ?_
    refine JJ_iload dX10_reckon_55 rfl ?_
    refine JJ_iastX ht.2.2.2.1 (IX_of (j := 4) rfl (by decide) (by decide)) dX10_reckon_57 (fun M55 hM56 => ?_)
    refine JJ_aload_n dX10_reckon_58 rfl rfl ?_
    refine JJ_getr (q := t + 3) (cis := [10]) (k := 3) fa_X10_18 (by decide) ht.1 rfl ht.2.2.2.2.2.2.2.1 dX10_reckon_59 ?_
    refine JJ_iconst (v := 5) dX10_reckon_62 rfl ?_
    refine JJ_iload dX10_reckon_63 rfl ?_
    refine JJ_iastX ht.2.2.2.1 (IX_of (j := 5) rfl (by decide) (by decide)) dX10_reckon_65 (fun M57 hM58 => ?_)
    refine JJ_iconst (v := 0) dX10_reckon_66 rfl ?_
    refine JJ_istore (lv' := [(7, .int 0), (0, .ref t), (1, .int 2), (2, .ref who), (3, .int warm), (4, .int far), (5, .int number), (6, .int cell)]) dX10_reckon_67 (by decide) rfl ?_
    refine JJ_iload_n dX10_reckon_69 rfl rfl ?_
    refine JJ_if_ne (tgt := 77) dX10_reckon_70 (by decide) (fun _ => ?_) (fun c59 => absurd c59 (by decide))
    refine JJ_aload_n dX10_reckon_77 rfl rfl ?_
    refine JJ_getr (q := t + 4) (cis := [10]) (k := 4) fa_X10_21 (by decide) ht.1 rfl ht.2.2.2.2.2.2.2.2 dX10_reckon_78 ?_
    refine JJ_iload_n dX10_reckon_81 rfl rfl ?_
    refine JJ_iconst (v := 1) dX10_reckon_82 rfl ?_
    refine JJ_isub dX10_reckon_83 ?_
    refine JJ_eqi (x2 := 1) (by decide) ?_
    refine JJ_ialdX (v := nI (c0.length + c1.length)) ht.2.2.2.2.1 (IX_of (j := 1) rfl (by decide) (by decide)) (hx _ _ (by omega)) (rd_n hM58 (by omega) (rd_n hM56 (by omega) (rd_n hM54 (by omega) (rd_n hM52 (by omega) (rd_n hM50 (by omega) (rd_n hM48 (by omega) e1)))))) dX10_reckon_84 ?_
    refine JJ_istore (lv' := [(8, .int (nI (c0.length + c1.length))), (7, .int 0), (0, .ref t), (1, .int 2), (2, .ref who), (3, .int warm), (4, .int far), (5, .int number), (6, .int cell)]) dX10_reckon_85 (by decide) rfl ?_
    have hf6 : ∀ b k, b ≠ t + 3 → M57 b k = M b k := fun b k z => (rd_n hM58 (by omega) (rd_n hM56 (by omega) (rd_n hM54 (by omega) (rd_n hM52 (by omega) (rd_n hM50 (by omega) (rd_n hM48 (by omega) rfl))))))
    have hnm : ∀ k, k < 6 → M57 (t + 3) k = (nms far warm (M who 1) (M who 2) number cell) k := by
      intro k hk
      match k, hk with
      | 0, _ => exact (rd_n hM58 (by omega) (rd_n hM56 (by omega) (rd_n hM54 (by omega) (rd_n hM52 (by omega) (rd_n hM50 (by omega) (rd_s hM48))))))
      | 1, _ => exact (rd_n hM58 (by omega) (rd_n hM56 (by omega) (rd_n hM54 (by omega) (rd_n hM52 (by omega) (rd_s hM50)))))
      | 2, _ => exact (rd_n hM58 (by omega) (rd_n hM56 (by omega) (rd_n hM54 (by omega) (rd_s hM52))))
      | 3, _ => exact (rd_n hM58 (by omega) (rd_n hM56 (by omega) (rd_s hM54)))
      | 4, _ => exact (rd_n hM58 (by omega) (rd_s hM56))
      | 5, _ => exact (rd_s hM58)
    have key : ∀ (c : List Int32) (i : Nat) (st : List Int32) (M7x : Nat → Nat → Int32), i + c.length = c0.length + c1.length + c2.length → (∀ j, j < c.length → M (t + 1) (i + j) = c.getD j 0) → SR t M7x st → st.length ≤ i → (∀ b l, b ≠ t + 2 → M7x b l = M57 b l) → crun (nms far warm (M who 1) (M who 2) number cell) c st = [d2 (nms far warm (M who 1) (M who 2) number cell)] → JJ G sc yX10_reckon cX10_reckon 9 (some .int) 2 0 0 (fun v μ => v = some (.int (zEf d0 d1 d2 2 far warm (M who 1) (M who 2) number cell)) ∧ ∃ M', μ = (n, S, M', L, P) ∧ ∀ b k, b ≠ t + 2 → b ≠ t + 3 → M' b k = M b k) 87 [(8, .int (nI i)), (7, .int (nI st.length)), (0, .ref t), (1, .int 2)] [] (n, S, M7x, L, P) := by
      intro c
      induction c with
      | nil =>
        intro i st M7x hi hc hs hl hf hr
        have hi : i = c0.length + c1.length + c2.length := hi
        have hr : st = [d2 (nms far warm (M who 1) (M who 2) number cell)] := hr
        subst hr
        refine JJ_iload dX10_reckon_87 rfl ?_
        refine JJ_aload_n dX10_reckon_89 rfl rfl ?_
        refine JJ_getr (q := t + 4) (cis := [10]) (k := 4) fa_X10_21 (by decide) ht.1 rfl ht.2.2.2.2.2.2.2.2 dX10_reckon_90 ?_
        refine JJ_iload_n dX10_reckon_93 rfl rfl ?_
        refine JJ_ialdX (v := nI (c0.length + c1.length + c2.length)) ht.2.2.2.2.1 (IX_of (j := 2) rfl (by decide) (by decide)) (hx _ _ (by omega)) ((hf _ _ (by omega)).trans ((hf6 _ _ (by omega)).trans e2)) dX10_reckon_94 ?_
        refine JJ_icmp_ge (tgt := 129) dX10_reckon_95 (by decide) (fun _ => ?_) (fun c60 => absurd (nI_le (by omega) (by omega)) c60)
        refine JJ_iload dX10_reckon_129 rfl ?_
        refine JJ_if_le (tgt := 146) dX10_reckon_131 (by decide) (fun c61 => absurd c61 (show ¬ nI 1 ≤ 0 by decide)) (fun _ => ?_)
        refine JJ_aload_n dX10_reckon_134 rfl rfl ?_
        refine JJ_getr (q := t + 2) (cis := [10]) (k := 2) fa_X10_15 (by decide) ht.1 rfl ht.2.2.2.2.2.2.1 dX10_reckon_135 ?_
        refine JJ_iload dX10_reckon_138 rfl ?_
        refine JJ_iconst (v := 1) dX10_reckon_140 rfl ?_
        refine JJ_isub dX10_reckon_141 ?_
        refine JJ_eqi (x2 := 0) (show nI 1 - 1 = 0 by decide) ?_
        refine JJ_ialdX (v := d2 (nms far warm (M who 1) (M who 2) number cell)) ht.2.2.1 (IX_of (j := 0) rfl (by decide) (by decide)) (hx _ _ (by omega)) (hs 0 (by exact Nat.succ_pos 0)) dX10_reckon_142 ?_
        refine JJ_goto (tgt := 147) dX10_reckon_143 (by decide) ?_
        refine JJ_iret dX10_reckon_147 rfl ?_
        exact ⟨rfl, M7x, rfl, fun b l z1 z2 => (hf b l z1).trans (hf6 b l z2)⟩
      | cons op c ih =>
        intro i st M7x hi hc hs hl hf hr
        have hi : i + (c.length + 1) = c0.length + c1.length + c2.length := hi
        refine JJ_iload dX10_reckon_87 rfl ?_
        refine JJ_aload_n dX10_reckon_89 rfl rfl ?_
        refine JJ_getr (q := t + 4) (cis := [10]) (k := 4) fa_X10_21 (by decide) ht.1 rfl ht.2.2.2.2.2.2.2.2 dX10_reckon_90 ?_
        refine JJ_iload_n dX10_reckon_93 rfl rfl ?_
        refine JJ_ialdX (v := nI (c0.length + c1.length + c2.length)) ht.2.2.2.2.1 (IX_of (j := 2) rfl (by decide) (by decide)) (hx _ _ (by omega)) ((hf _ _ (by omega)).trans ((hf6 _ _ (by omega)).trans e2)) dX10_reckon_94 ?_
        refine JJ_icmp_ge (tgt := 129) dX10_reckon_95 (by decide) (fun c62 => absurd c62 (nI_ge (by omega) (by omega))) (fun _ => ?_)
        refine JJ_iload dX10_reckon_98 rfl ?_
        refine JJ_aload_n dX10_reckon_100 rfl rfl ?_
        refine JJ_getr (q := t + 1) (cis := [10]) (k := 1) fa_X10_9 (by decide) ht.1 rfl ht.2.2.2.2.2.1 dX10_reckon_101 ?_
        refine JJ_alen (t := 0) ht.2.1 (by decide) dX10_reckon_104 ?_
        refine JJ_icmp_ge (tgt := 129) dX10_reckon_105 (by decide) (fun c63 => absurd c63 (nI_ge (b := 160) (by omega) (by omega))) (fun _ => ?_)
        refine JJ_aload_n dX10_reckon_108 rfl rfl ?_
        refine JJ_aload_n dX10_reckon_109 rfl rfl ?_
        refine JJ_getr (q := t + 1) (cis := [10]) (k := 1) fa_X10_9 (by decide) ht.1 rfl ht.2.2.2.2.2.1 dX10_reckon_110 ?_
        refine JJ_iload dX10_reckon_113 rfl ?_
        refine JJ_ialdX (v := op) ht.2.1 (IX_nI (by omega) (by omega)) (hx _ _ (by omega)) ((hf _ _ (by omega)).trans ((hf6 _ _ (by omega)).trans (hc 0 (Nat.succ_pos _)))) dX10_reckon_115 ?_
        refine JJ_iload dX10_reckon_116 rfl ?_
        refine JJ_callV (rest := []) ht.1 rfl rfl (kc_work (nm := (nms far warm (M who 1) (M who 2) number cell)) (st := st) (op := op) (by omega) hs (fun q hq => (hf _ _ (by omega)).trans (hnm q hq)) ht hx) (by omega) mi_X10_work lk_X10_39 rfl (Nat.le_of_ble_eq_true rfl) rfl rfl dX10_reckon_118 ?_
        intro v64 μ65 h66
        obtain ⟨rfl, M8x, rfl, hs8, hf8⟩ := h66
        refine JJ_r1 ?_
        refine JJ_istore (lv' := [(7, .int (nI (crun1 (nms far warm (M who 1) (M who 2) number cell) st op).length)), (8, .int (nI i)), (0, .ref t), (1, .int 2)]) dX10_reckon_121 (by decide) rfl ?_
        refine JJ_iinc (v := nI (i + 1)) (lv' := [(8, .int (nI (i + 1))), (7, .int (nI (crun1 (nms far warm (M who 1) (M who 2) number cell) st op).length)), (0, .ref t), (1, .int 2)]) dX10_reckon_123 rfl (nI_add (i) 1) (by decide) rfl ?_
        refine JJ_goto (tgt := 87) dX10_reckon_126 (by decide) ?_
        refine JJ.pick [0, 1, 2, 3] rfl ?_
        exact ih (i + 1) (crun1 (nms far warm (M who 1) (M who 2) number cell) st op) M8x (by omega) (fun j hj => by rw [show i + 1 + j = i + (j + 1) by omega]; exact hc (j + 1) (Nat.succ_lt_succ hj)) hs8 (by have := crun1_len (nm := (nms far warm (M who 1) (M who 2) number cell)) (st := st) (op := op); omega) (fun b l z => (hf8 b l z).trans (hf b l z)) hr
    refine JJ.pick [0, 1, 2, 3] rfl ?_
    exact key c2 (c0.length + c1.length) [] M57 (by omega) (fun j hj => (hcode _ (by omega)).trans (by rw [List.getD_eq_getElem?_getD, List.getElem?_append_right (by rw [List.length_append]; omega), List.length_append, Nat.add_sub_cancel_left, ← List.getD_eq_getElem?_getD])) (fun j hj => absurd hj (Nat.not_lt_zero _)) (Nat.zero_le _) (fun _ _ _ => rfl) (v2 _ _)
theorem CWF.tsh (hC : CWF x S P) {r : Nat} (hr : r < 6) : TSH (x + 10 + 5 * r) S P := by
  obtain ⟨h1, h2, h3, h4, h5, h6, h7, h8, h9⟩ := hC.2.2.1 r hr
  exact ⟨by rw [h1], h2, h3, h4, h5, h6, h7, h8, h9⟩
theorem HT_no {t : Nat} : HT t (fun _ _ => False) := fun _ _ _ h => h
/-- what a rule says, asked of the class -/
theorem kc_reckon {who w r : Nat} {E : RuleF} {warm far number cell : Int32} (h3 : w < 3) (hr : r < 6) (hE : TXC (x + 10 + 5 * r) M E) (hw : (S who).1 = 7) (hwt : who < x + 10 ∨ x + 40 ≤ who) (hsw : ∀ k, ¬ sc who k) (hC : CWF x S P) (hX : HSC x sc) : KK G sc yX10_reckon cX10_reckon 9 (some .int) 2 0 0 [.ref (x + 10 + 5 * r), .int (nI w), .ref who, .int warm, .int far, .int number, .int cell] (n, S, M, L, P) (ansI (E w far warm (M who 1) (M who 2) number cell) (n, S, M, L, P)) := by
  refine KK_more (sc := fun _ _ => False) (fun _ _ h => h.elim) (fun μ' hq => ?_)
  obtain ⟨M', L', rfl, h1, h2⟩ := hq.parts
  refine KK_mono (kc_reckonP (E := E) h3 (hE.keep (fun k => h1 _ _ (hX.1 _ _ (by omega) (by omega) (by omega))) (fun k => h1 _ _ (hX.1 _ _ (by omega) (by omega) (by omega)))) hw (by omega) (fun _ h => h) (hC.tsh hr) HT_no) ?_
  intro v μ ⟨hv, M'', hμ, hf⟩
  subst hμ
  rw [h1 _ _ (hsw 1), h1 _ _ (hsw 2)] at hv
  refine ⟨_, EQV.mk (fun a k hz => ?_) h2, hv, rfl⟩
  refine (hf a k (fun e => hz ?_) (fun e => hz ?_)).trans (h1 a k hz)
  · exact hX.2.2 _ _ (by omega) (by omega) (by omega)
  · exact hX.2.2 _ _ (by omega) (by omega) (by omega)
end C4
