section C1
variable {G : Gx} {sc : Nat → Nat → Prop} {n : Nat} {S : Nat → Nat × Nat} {M : Nat → Nat → Int32} {L : Nat → Nat → Int64} {P : Nat → Nat → Option Nat} {x : Nat}

set_option maxHeartbeats 4000000 in
set_option maxRecDepth 100000 in
theorem kc_apart {a b : Int32} : KK G sc yX11_apart cX11_apart 2 (some .int) 0 0 0 [.int a, .int b] (n, S, M, L, P) (ansI (s_far a b) (n, S, M, L, P)) := by
  refine KK_of2 [(0, .int a), (1, .int b)] (by decide +kernel) (Nat.le_of_ble_eq_true rfl) rfl ?_
  refine JJ_iload_n dX11_apart_0 rfl rfl ?_
  refine JJ_iconst (v := 5) dX11_apart_1 rfl ?_
  refine JJ_irem dX11_apart_2 (by decide) ?_
  refine JJ_iload_n dX11_apart_3 rfl rfl ?_
  refine JJ_iconst (v := 5) dX11_apart_4 rfl ?_
  refine JJ_irem dX11_apart_5 (by decide) ?_
  refine JJ_isub dX11_apart_6 ?_
  refine JJ_abs lk_X11_305 tb_634 tb_83 tb_635 (Nat.le_of_ble_eq_true rfl) dX11_apart_7 ?_
  refine JJ_iload_n dX11_apart_10 rfl rfl ?_
  refine JJ_iconst (v := 5) dX11_apart_11 rfl ?_
  refine JJ_idiv dX11_apart_12 (by decide) ?_
  refine JJ_iload_n dX11_apart_13 rfl rfl ?_
  refine JJ_iconst (v := 5) dX11_apart_14 rfl ?_
  refine JJ_idiv dX11_apart_15 (by decide) ?_
  refine JJ_isub dX11_apart_16 ?_
  refine JJ_abs lk_X11_305 tb_634 tb_83 tb_635 (Nat.le_of_ble_eq_true rfl) dX11_apart_17 ?_
  refine JJ_max lk_X11_310 tb_637 tb_83 tb_638 (Nat.le_of_ble_eq_true rfl) dX11_apart_20 ?_
  refine JJ_iret dX11_apart_23 rfl ?_
  exact ans_i (by rw [abs_e, abs_e]; exact max_c)
set_option maxHeartbeats 4000000 in
set_option maxRecDepth 100000 in
theorem kc_across {c : Int32} : KK G sc yX11_across cX11_across 1 (some .int) 0 0 0 [.int c] (n, S, M, L, P) (ansI (s_across c) (n, S, M, L, P)) := by
  refine KK_of2 [(0, .int c)] (by decide +kernel) (Nat.le_of_ble_eq_true rfl) rfl ?_
  refine JJ_iload_n dX11_across_0 rfl rfl ?_
  refine JJ_iload_n dX11_across_1 rfl rfl ?_
  refine JJ_iconst (v := 5) dX11_across_2 rfl ?_
  refine JJ_irem dX11_across_3 (by decide) ?_
  refine JJ_isub dX11_across_4 ?_
  refine JJ_iconst (v := 5) dX11_across_5 rfl ?_
  refine JJ_iadd dX11_across_6 ?_
  refine JJ_iconst (v := 1) dX11_across_7 rfl ?_
  refine JJ_isub dX11_across_8 ?_
  refine JJ_iload_n dX11_across_9 rfl rfl ?_
  refine JJ_iconst (v := 5) dX11_across_10 rfl ?_
  refine JJ_irem dX11_across_11 (by decide) ?_
  refine JJ_isub dX11_across_12 ?_
  refine JJ_iret dX11_across_13 rfl ?_
  exact ans_i (by rw [x51]; rfl)
set_option maxHeartbeats 4000000 in
set_option maxRecDepth 100000 in
theorem kc_within {v m : Int32} (hm : 0 ≤ m.toInt) : KK G sc yX11_within cX11_within 2 (some .int) 0 0 0 [.int v, .int m] (n, S, M, L, P) (ansI (s_within v 0 m) (n, S, M, L, P)) := by
  refine KK_of2 [(0, .int v), (1, .int m)] (by decide +kernel) (Nat.le_of_ble_eq_true rfl) rfl ?_
  refine JJ_iconst (v := 0) dX11_within_0 rfl ?_
  refine JJ_iload_n dX11_within_1 rfl rfl ?_
  refine JJ_iload_n dX11_within_2 rfl rfl ?_
  refine JJ_min lk_X11_313 tb_654 tb_83 tb_655 (Nat.le_of_ble_eq_true rfl) dX11_within_3 ?_
  refine JJ_max lk_X11_310 tb_637 tb_83 tb_638 (Nat.le_of_ble_eq_true rfl) dX11_within_6 ?_
  refine JJ_iret dX11_within_9 rfl ?_
  exact ans_i (within_e hm)
set_option maxHeartbeats 4000000 in
set_option maxRecDepth 100000 in
theorem kc_isPlayer {v : Int32} : KK G sc yX11_isPlayer cX11_isPlayer 1 (some .boolean) 0 0 0 [.int v] (n, S, M, L, P) (ansI (b2 (0 ≤ v.toInt ∧ v.toInt ≤ 1)) (n, S, M, L, P)) := by
  refine KK_of2 [(0, .int v)] (by decide +kernel) (Nat.le_of_ble_eq_true rfl) rfl ?_
  refine JJ_iload_n dX11_isPlayer_0 rfl rfl ?_
  refine JJ_if_eq (tgt := 9) dX11_isPlayer_1 (by decide) (fun c1 => ?_) (fun c1 => ?_)
  · skip
    refine JJ_iconst (v := 1) dX11_isPlayer_9 rfl ?_
    refine JJ_goto (tgt := 14) dX11_isPlayer_10 (by decide) ?_
    refine JJ_zret dX11_isPlayer_14 rfl (Or.inr rfl) ?_
    exact ans_i (b2_t (by rw [c1]; decide)).symm
  · skip
    refine JJ_iload_n dX11_isPlayer_4 rfl rfl ?_
    refine JJ_iconst (v := 1) dX11_isPlayer_5 rfl ?_
    refine JJ_icmp_ne (tgt := 13) dX11_isPlayer_6 (by decide) (fun c2 => ?_) (fun c2 => ?_)
    · skip
      refine JJ_iconst (v := 0) dX11_isPlayer_13 rfl ?_
      refine JJ_zret dX11_isPlayer_14 rfl (Or.inl rfl) ?_
      exact ans_i (b2_f (fun z => by
        rcases n_of (m := 1) (by decide) z with ⟨q, hq, e⟩
        rcases (by omega : q = 0 ∨ q = 1) with rfl | rfl
        · exact c1 e
        · exact c2 e)).symm
    · skip
      refine JJ_iconst (v := 1) dX11_isPlayer_9 rfl ?_
      refine JJ_goto (tgt := 14) dX11_isPlayer_10 (by decide) ?_
      refine JJ_zret dX11_isPlayer_14 rfl (Or.inr rfl) ?_
      exact ans_i (b2_t (by rw [c2]; decide)).symm
set_option maxHeartbeats 4000000 in
set_option maxRecDepth 100000 in
theorem kc_isCell {v : Int32} : KK G sc yX11_isCell cX11_isCell 1 (some .boolean) 0 0 0 [.int v] (n, S, M, L, P) (ansI (b2 (0 ≤ v.toInt ∧ v.toInt ≤ 24)) (n, S, M, L, P)) := by
  refine KK_of2 [(0, .int v)] (by decide +kernel) (Nat.le_of_ble_eq_true rfl) rfl ?_
  refine JJ_iload_n dX11_isCell_0 rfl rfl ?_
  refine JJ_if_lt (tgt := 14) dX11_isCell_1 (by decide) (fun c1 => ?_) (fun c1 => ?_)
  · skip
    refine JJ_iconst (v := 0) dX11_isCell_14 rfl ?_
    refine JJ_zret dX11_isCell_15 rfl (Or.inl rfl) ?_
    have t0 : (0 : Int32).toInt = 0 := rfl
    have t25 : (25 : Int32).toInt = 25 := rfl
    have q1 := c1
    rw [i_lt] at q1
    exact ans_i (b2_f (by omega)).symm
  · skip
    refine JJ_iload_n dX11_isCell_4 rfl rfl ?_
    refine JJ_bipush (v := 25) dX11_isCell_5 rfl ?_
    refine JJ_icmp_ge (tgt := 14) dX11_isCell_7 (by decide) (fun c2 => ?_) (fun c2 => ?_)
    · skip
      refine JJ_iconst (v := 0) dX11_isCell_14 rfl ?_
      refine JJ_zret dX11_isCell_15 rfl (Or.inl rfl) ?_
      have t0 : (0 : Int32).toInt = 0 := rfl
      have t25 : (25 : Int32).toInt = 25 := rfl
      have q1 := Int32.not_lt.mp c1
      rw [i_le] at q1
      have q7 := c2
      rw [i_le] at q7
      exact ans_i (b2_f (by omega)).symm
    · skip
      refine JJ_iconst (v := 1) dX11_isCell_10 rfl ?_
      refine JJ_goto (tgt := 15) dX11_isCell_11 (by decide) ?_
      refine JJ_zret dX11_isCell_15 rfl (Or.inr rfl) ?_
      have t0 : (0 : Int32).toInt = 0 := rfl
      have t25 : (25 : Int32).toInt = 25 := rfl
      have q1 := Int32.not_lt.mp c1
      rw [i_le] at q1
      have q7 := Int32.not_le.mp c2
      rw [i_lt] at q7
      exact ans_i (b2_t (by omega)).symm
set_option maxHeartbeats 4000000 in
set_option maxRecDepth 100000 in
theorem kc_fits {q v : Int32} : KK G sc yX11_fits cX11_fits 2 (some .boolean) 1 0 0 [.int q, .int v] (n, S, M, L, P) (ansI (b2 ((0 ≤ q.toInt ∧ q.toInt ≤ 6) ∧ s_lo (i2n q) ≤ v.toInt ∧ v.toInt ≤ s_hi (i2n q))) (n, S, M, L, P)) := by
  refine KK_of2 [(0, .int q), (1, .int v)] (by decide +kernel) (Nat.le_of_ble_eq_true rfl) rfl ?_
  have t0 : (0 : Int32).toInt = 0 := rfl
  have t9 : (9 : Int32).toInt = 9 := rfl
  have t99 : (99 : Int32).toInt = 99 := rfl
  have t999 : (999 : Int32).toInt = 999 := rfl
  have tm : (-1 : Int32).toInt = -1 := rfl
  by_cases hq : 0 ≤ q.toInt ∧ q.toInt ≤ 6
  · skip
    obtain ⟨k, hk, rfl⟩ := n_of (m := 6) (by decide) hq
    rcases (by omega : k = 0 ∨ k = 1 ∨ k = 2 ∨ k = 3 ∨ k = 4 ∨ k = 5 ∨ k = 6) with rfl | rfl | rfl | rfl | rfl | rfl | rfl
    · skip
      have e : ((0 ≤ (nI 0).toInt ∧ (nI 0).toInt ≤ 6) ∧ s_lo (i2n (nI 0)) ≤ v.toInt ∧ v.toInt ≤ s_hi (i2n (nI 0))) ↔ (0 ≤ v.toInt ∧ v.toInt ≤ 24) := ⟨fun z => z.2, fun z => ⟨by decide, z⟩⟩
      rw [b2_c e]
      refine JJ_iload_n dX11_fits_0 rfl rfl ?_
      refine JJ_tabIn (tgt := 44) 0 dX11_fits_1 rfl (by decide) rfl (by decide) ?_
      refine JJ_iload_n dX11_fits_44 rfl rfl ?_
      refine JJ_callS (rest := []) (kc_isCell) (by omega) mi_X11_isCell lk_X11_134 rfl (Nat.le_of_ble_eq_true rfl) rfl rfl dX11_fits_45 ?_
      intro v1 μ2 h3
      obtain ⟨rfl, rfl⟩ := h3
      refine JJ_r1 ?_
      refine JJ_zret dX11_fits_48 rfl b2_z ?_
      exact ans_i rfl
    · skip
      have e : ((0 ≤ (nI 1).toInt ∧ (nI 1).toInt ≤ 6) ∧ s_lo (i2n (nI 1)) ≤ v.toInt ∧ v.toInt ≤ s_hi (i2n (nI 1))) ↔ (0 ≤ v.toInt ∧ v.toInt ≤ 999) := ⟨fun z => z.2, fun z => ⟨by decide, z⟩⟩
      rw [b2_c e]
      refine JJ_iload_n dX11_fits_0 rfl rfl ?_
      refine JJ_tabIn (tgt := 49) 1 dX11_fits_1 rfl (by decide) rfl (by decide) ?_
      refine JJ_iload_n dX11_fits_49 rfl rfl ?_
      refine JJ_if_lt (tgt := 64) dX11_fits_50 (by decide) (fun c4 => ?_) (fun c4 => ?_)
      · skip
        refine JJ_iconst (v := 0) dX11_fits_64 rfl ?_
        refine JJ_zret dX11_fits_65 rfl (Or.inl rfl) ?_
        have q0 := c4
        rw [i_lt] at q0
        exact ans_i (b2_f (by omega)).symm
      · skip
        refine JJ_iload_n dX11_fits_53 rfl rfl ?_
        refine JJ_sipush (v := 999) dX11_fits_54 rfl ?_
        refine JJ_icmp_gt (tgt := 64) dX11_fits_57 (by decide) (fun c5 => ?_) (fun c5 => ?_)
        · skip
          refine JJ_iconst (v := 0) dX11_fits_64 rfl ?_
          refine JJ_zret dX11_fits_65 rfl (Or.inl rfl) ?_
          have q0 := Int32.not_lt.mp c4
          rw [i_le] at q0
          have q1 := c5
          rw [i_lt] at q1
          exact ans_i (b2_f (by omega)).symm
        · skip
          refine JJ_iconst (v := 1) dX11_fits_60 rfl ?_
          refine JJ_goto (tgt := 65) dX11_fits_61 (by decide) ?_
          refine JJ_zret dX11_fits_65 rfl (Or.inr rfl) ?_
          have q0 := Int32.not_lt.mp c4
          rw [i_le] at q0
          have q1 := Int32.not_lt.mp c5
          rw [i_le] at q1
          exact ans_i (b2_t (by omega)).symm
    · skip
      have e : ((0 ≤ (nI 2).toInt ∧ (nI 2).toInt ≤ 6) ∧ s_lo (i2n (nI 2)) ≤ v.toInt ∧ v.toInt ≤ s_hi (i2n (nI 2))) ↔ (0 ≤ v.toInt ∧ v.toInt ≤ 9) := ⟨fun z => z.2, fun z => ⟨by decide, z⟩⟩
      rw [b2_c e]
      refine JJ_iload_n dX11_fits_0 rfl rfl ?_
      refine JJ_tabIn (tgt := 66) 2 dX11_fits_1 rfl (by decide) rfl (by decide) ?_
      refine JJ_iload_n dX11_fits_66 rfl rfl ?_
      refine JJ_if_lt (tgt := 80) dX11_fits_67 (by decide) (fun c6 => ?_) (fun c6 => ?_)
      · skip
        refine JJ_iconst (v := 0) dX11_fits_80 rfl ?_
        refine JJ_zret dX11_fits_81 rfl (Or.inl rfl) ?_
        have q0 := c6
        rw [i_lt] at q0
        exact ans_i (b2_f (by omega)).symm
      · skip
        refine JJ_iload_n dX11_fits_70 rfl rfl ?_
        refine JJ_bipush (v := 9) dX11_fits_71 rfl ?_
        refine JJ_icmp_gt (tgt := 80) dX11_fits_73 (by decide) (fun c7 => ?_) (fun c7 => ?_)
        · skip
          refine JJ_iconst (v := 0) dX11_fits_80 rfl ?_
          refine JJ_zret dX11_fits_81 rfl (Or.inl rfl) ?_
          have q0 := Int32.not_lt.mp c6
          rw [i_le] at q0
          have q1 := c7
          rw [i_lt] at q1
          exact ans_i (b2_f (by omega)).symm
        · skip
          refine JJ_iconst (v := 1) dX11_fits_76 rfl ?_
          refine JJ_goto (tgt := 81) dX11_fits_77 (by decide) ?_
          refine JJ_zret dX11_fits_81 rfl (Or.inr rfl) ?_
          have q0 := Int32.not_lt.mp c6
          rw [i_le] at q0
          have q1 := Int32.not_lt.mp c7
          rw [i_le] at q1
          exact ans_i (b2_t (by omega)).symm
    · skip
      have e : ((0 ≤ (nI 3).toInt ∧ (nI 3).toInt ≤ 6) ∧ s_lo (i2n (nI 3)) ≤ v.toInt ∧ v.toInt ≤ s_hi (i2n (nI 3))) ↔ (-1 ≤ v.toInt ∧ v.toInt ≤ 24) := ⟨fun z => z.2, fun z => ⟨by decide, z⟩⟩
      rw [b2_c e]
      refine JJ_iload_n dX11_fits_0 rfl rfl ?_
      refine JJ_tabIn (tgt := 82) 3 dX11_fits_1 rfl (by decide) rfl (by decide) ?_
      refine JJ_iload_n dX11_fits_82 rfl rfl ?_
      refine JJ_iconst (v := (-1)) dX11_fits_83 rfl ?_
      refine JJ_icmp_eq (tgt := 94) dX11_fits_84 (by decide) (fun c8 => ?_) (fun c8 => ?_)
      · skip
        refine JJ_iconst (v := 1) dX11_fits_94 rfl ?_
        refine JJ_goto (tgt := 99) dX11_fits_95 (by decide) ?_
        refine JJ_zret dX11_fits_99 rfl (Or.inr rfl) ?_
        have q0 := c8
        rw [i_eq] at q0
        exact ans_i (b2_t (by omega)).symm
      · skip
        refine JJ_iload_n dX11_fits_87 rfl rfl ?_
        refine JJ_callS (rest := []) (kc_isCell) (by omega) mi_X11_isCell lk_X11_134 rfl (Nat.le_of_ble_eq_true rfl) rfl rfl dX11_fits_88 ?_
        intro v9 μ10 h11
        obtain ⟨rfl, rfl⟩ := h11
        refine JJ_r1 ?_
        refine JJ_if_eq (tgt := 98) dX11_fits_91 (by decide) (fun c12 => ?_) (fun c12 => ?_)
        · skip
          refine JJ_iconst (v := 0) dX11_fits_98 rfl ?_
          refine JJ_zret dX11_fits_99 rfl (Or.inl rfl) ?_
          have q0 := c8
          rw [i_eq] at q0
          have q1 := b2_0.mp c12
          exact ans_i (b2_f (by omega)).symm
        · skip
          refine JJ_iconst (v := 1) dX11_fits_94 rfl ?_
          refine JJ_goto (tgt := 99) dX11_fits_95 (by decide) ?_
          refine JJ_zret dX11_fits_99 rfl (Or.inr rfl) ?_
          have q0 := c8
          rw [i_eq] at q0
          have q1 := b2_n.mp c12
          exact ans_i (b2_t (by omega)).symm
    · skip
      have e : ((0 ≤ (nI 4).toInt ∧ (nI 4).toInt ≤ 6) ∧ s_lo (i2n (nI 4)) ≤ v.toInt ∧ v.toInt ≤ s_hi (i2n (nI 4))) ↔ (0 ≤ v.toInt ∧ v.toInt ≤ 9) := ⟨fun z => z.2, fun z => ⟨by decide, z⟩⟩
      rw [b2_c e]
      refine JJ_iload_n dX11_fits_0 rfl rfl ?_
      refine JJ_tabIn (tgt := 100) 4 dX11_fits_1 rfl (by decide) rfl (by decide) ?_
      refine JJ_iload_n dX11_fits_100 rfl rfl ?_
      refine JJ_if_lt (tgt := 114) dX11_fits_101 (by decide) (fun c13 => ?_) (fun c13 => ?_)
      · skip
        refine JJ_iconst (v := 0) dX11_fits_114 rfl ?_
        refine JJ_zret dX11_fits_115 rfl (Or.inl rfl) ?_
        have q0 := c13
        rw [i_lt] at q0
        exact ans_i (b2_f (by omega)).symm
      · skip
        refine JJ_iload_n dX11_fits_104 rfl rfl ?_
        refine JJ_bipush (v := 9) dX11_fits_105 rfl ?_
        refine JJ_icmp_gt (tgt := 114) dX11_fits_107 (by decide) (fun c14 => ?_) (fun c14 => ?_)
        · skip
          refine JJ_iconst (v := 0) dX11_fits_114 rfl ?_
          refine JJ_zret dX11_fits_115 rfl (Or.inl rfl) ?_
          have q0 := Int32.not_lt.mp c13
          rw [i_le] at q0
          have q1 := c14
          rw [i_lt] at q1
          exact ans_i (b2_f (by omega)).symm
        · skip
          refine JJ_iconst (v := 1) dX11_fits_110 rfl ?_
          refine JJ_goto (tgt := 115) dX11_fits_111 (by decide) ?_
          refine JJ_zret dX11_fits_115 rfl (Or.inr rfl) ?_
          have q0 := Int32.not_lt.mp c13
          rw [i_le] at q0
          have q1 := Int32.not_lt.mp c14
          rw [i_le] at q1
          exact ans_i (b2_t (by omega)).symm
    · skip
      have e : ((0 ≤ (nI 5).toInt ∧ (nI 5).toInt ≤ 6) ∧ s_lo (i2n (nI 5)) ≤ v.toInt ∧ v.toInt ≤ s_hi (i2n (nI 5))) ↔ (0 ≤ v.toInt ∧ v.toInt ≤ 24) := ⟨fun z => z.2, fun z => ⟨by decide, z⟩⟩
      rw [b2_c e]
      refine JJ_iload_n dX11_fits_0 rfl rfl ?_
      refine JJ_tabIn (tgt := 44) 5 dX11_fits_1 rfl (by decide) rfl (by decide) ?_
      refine JJ_iload_n dX11_fits_44 rfl rfl ?_
      refine JJ_callS (rest := []) (kc_isCell) (by omega) mi_X11_isCell lk_X11_134 rfl (Nat.le_of_ble_eq_true rfl) rfl rfl dX11_fits_45 ?_
      intro v15 μ16 h17
      obtain ⟨rfl, rfl⟩ := h17
      refine JJ_r1 ?_
      refine JJ_zret dX11_fits_48 rfl b2_z ?_
      exact ans_i rfl
    · skip
      have e : ((0 ≤ (nI 6).toInt ∧ (nI 6).toInt ≤ 6) ∧ s_lo (i2n (nI 6)) ≤ v.toInt ∧ v.toInt ≤ s_hi (i2n (nI 6))) ↔ (0 ≤ v.toInt ∧ v.toInt ≤ 99) := ⟨fun z => z.2, fun z => ⟨by decide, z⟩⟩
      rw [b2_c e]
      refine JJ_iload_n dX11_fits_0 rfl rfl ?_
      refine JJ_tabIn (tgt := 116) 6 dX11_fits_1 rfl (by decide) rfl (by decide) ?_
      refine JJ_iload_n dX11_fits_116 rfl rfl ?_
      refine JJ_if_lt (tgt := 130) dX11_fits_117 (by decide) (fun c18 => ?_) (fun c18 => ?_)
      · skip
        refine JJ_iconst (v := 0) dX11_fits_130 rfl ?_
        refine JJ_zret dX11_fits_131 rfl (Or.inl rfl) ?_
        have q0 := c18
        rw [i_lt] at q0
        exact ans_i (b2_f (by omega)).symm
      · skip
        refine JJ_iload_n dX11_fits_120 rfl rfl ?_
        refine JJ_bipush (v := 99) dX11_fits_121 rfl ?_
        refine JJ_icmp_gt (tgt := 130) dX11_fits_123 (by decide) (fun c19 => ?_) (fun c19 => ?_)
        · skip
          refine JJ_iconst (v := 0) dX11_fits_130 rfl ?_
          refine JJ_zret dX11_fits_131 rfl (Or.inl rfl) ?_
          have q0 := Int32.not_lt.mp c18
          rw [i_le] at q0
          have q1 := c19
          rw [i_lt] at q1
          exact ans_i (b2_f (by omega)).symm
        · skip
          refine JJ_iconst (v := 1) dX11_fits_126 rfl ?_
          refine JJ_goto (tgt := 131) dX11_fits_127 (by decide) ?_
          refine JJ_zret dX11_fits_131 rfl (Or.inr rfl) ?_
          have q0 := Int32.not_lt.mp c18
          rw [i_le] at q0
          have q1 := Int32.not_lt.mp c19
          rw [i_le] at q1
          exact ans_i (b2_t (by omega)).symm
  · skip
    rw [b2_c (show ((0 ≤ q.toInt ∧ q.toInt ≤ 6) ∧ s_lo (i2n q) ≤ v.toInt ∧ v.toInt ≤ s_hi (i2n q)) ↔ False from ⟨fun z => hq z.1, fun z => z.elim⟩)]
    refine JJ_iload_n dX11_fits_0 rfl rfl ?_
    refine JJ_tabOut (tgt := 132) dX11_fits_1 (by omega) (by decide) ?_
    refine JJ_iconst (v := 0) dX11_fits_132 rfl ?_
    refine JJ_zret dX11_fits_133 rfl (Or.inl rfl) ?_
    exact ans_i (b2_f (fun z => z)).symm
def s_cmp (a b : Int32) : Int32 := if a < b then -1 else if a = b then 0 else 1
set_option maxHeartbeats 4000000 in
set_option maxRecDepth 100000 in
theorem kc_cmp {a b : Int32} : KK G sc yJ6_compare_7cf53 cJ6_compare_7cf53 2 (some .int) 0 0 0 [.int a, .int b] (n, S, M, L, P) (ansI (s_cmp a b) (n, S, M, L, P)) := by
  refine KK_of2 [(0, .int a), (1, .int b)] (by decide +kernel) (Nat.le_of_ble_eq_true rfl) rfl ?_
  refine JJ_iload_n dJ6_compare_7cf53_0 rfl rfl ?_
  refine JJ_iload_n dJ6_compare_7cf53_1 rfl rfl ?_
  refine JJ_icmp_ge (tgt := 9) dJ6_compare_7cf53_2 (by decide) (fun c1 => ?_) (fun c1 => ?_)
  · skip
    refine JJ_iload_n dJ6_compare_7cf53_9 rfl rfl ?_
    refine JJ_iload_n dJ6_compare_7cf53_10 rfl rfl ?_
    refine JJ_icmp_ne (tgt := 18) dJ6_compare_7cf53_11 (by decide) (fun c2 => ?_) (fun c2 => ?_)
    · skip
      refine JJ_iconst (v := 1) dJ6_compare_7cf53_18 rfl ?_
      refine JJ_iret dJ6_compare_7cf53_19 rfl ?_
      exact ans_i ((if_neg (Int32.not_lt.mpr c1)).trans (if_neg c2)).symm
    · skip
      refine JJ_iconst (v := 0) dJ6_compare_7cf53_14 rfl ?_
      refine JJ_goto (tgt := 19) dJ6_compare_7cf53_15 (by decide) ?_
      refine JJ_iret dJ6_compare_7cf53_19 rfl ?_
      exact ans_i ((if_neg (Int32.not_lt.mpr c1)).trans (if_pos c2)).symm
  · skip
    refine JJ_iconst (v := (-1)) dJ6_compare_7cf53_5 rfl ?_
    refine JJ_goto (tgt := 19) dJ6_compare_7cf53_6 (by decide) ?_
    refine JJ_iret dJ6_compare_7cf53_19 rfl ?_
    exact ans_i (if_pos (Int32.not_le.mp c1)).symm
set_option maxHeartbeats 4000000 in
set_option maxRecDepth 100000 in
theorem kc_ptake {a b : Nat} (ha : (S a).1 = 7) (hb : (S b).1 = 7) (hab : a ≠ b) (hsa : ∀ k, ¬ sc a k) (hsb : ∀ k, ¬ sc b k) : KK G sc yX6_take cX6_take 2 none 0 0 0 [.ref a, .ref b] (n, S, M, L, P) (fun v μ => v = none ∧ ∃ M', μ = (n, S, M', L, P) ∧ (∀ k, k < 4 → M' a k = M b k) ∧ ∀ u k, ¬ (u = a ∧ k < 4) → M' u k = M u k) := by
  refine KK_of2 [(0, .ref a), (1, .ref b)] (by decide +kernel) (Nat.le_of_ble_eq_true rfl) rfl ?_
  refine JJ_aload_n dX6_take_0 rfl rfl ?_
  refine JJ_aload_n dX6_take_1 rfl rfl ?_
  refine JJ_geti (v := M b 0) (cis := [6]) (k := 0) fa_X6_9 (by decide) hb rfl (hsb 0) rfl dX6_take_2 ?_
  refine JJ_puti (cis := [6]) (k := 0) fa_X6_9 (by decide) ha rfl (fun r hr => by cases hr; exact ⟨rfl, by decide +kernel⟩) dX6_take_5 (fun M1 hM2 => ?_)
  refine JJ_aload_n dX6_take_8 rfl rfl ?_
  refine JJ_aload_n dX6_take_9 rfl rfl ?_
  refine JJ_geti (v := M b 1) (cis := [6]) (k := 1) fa_X6_15 (by decide) hb rfl (hsb 1) (rd_n hM2 (by omega) rfl) dX6_take_10 ?_
  refine JJ_puti (cis := [6]) (k := 1) fa_X6_15 (by decide) ha rfl (fun r hr => by cases hr; exact ⟨rfl, by decide +kernel⟩) dX6_take_13 (fun M3 hM4 => ?_)
  refine JJ_aload_n dX6_take_16 rfl rfl ?_
  refine JJ_aload_n dX6_take_17 rfl rfl ?_
  refine JJ_geti (v := M b 2) (cis := [6]) (k := 2) fa_X6_18 (by decide) hb rfl (hsb 2) (rd_n hM4 (by omega) (rd_n hM2 (by omega) rfl)) dX6_take_18 ?_
  refine JJ_puti (cis := [6]) (k := 2) fa_X6_18 (by decide) ha rfl (fun r hr => by cases hr; exact ⟨rfl, by decide +kernel⟩) dX6_take_21 (fun M5 hM6 => ?_)
  refine JJ_aload_n dX6_take_24 rfl rfl ?_
  refine JJ_aload_n dX6_take_25 rfl rfl ?_
  refine JJ_geti (v := M b 3) (cis := [6]) (k := 3) fa_X6_21 (by decide) hb rfl (hsb 3) (rd_n hM6 (by omega) (rd_n hM4 (by omega) (rd_n hM2 (by omega) rfl))) dX6_take_26 ?_
  refine JJ_puti (cis := [6]) (k := 3) fa_X6_21 (by decide) ha rfl (fun r hr => by cases hr; exact ⟨rfl, by decide +kernel⟩) dX6_take_29 (fun M7 hM8 => ?_)
  refine JJ_vret dX6_take_32 rfl ?_
  exact ⟨rfl, M7, rfl, fun k hk => (by
    match k, hk with
    | 0, _ => exact (rd_n hM8 (by omega) (rd_n hM6 (by omega) (rd_n hM4 (by omega) (rd_s hM2))))
    | 1, _ => exact (rd_n hM8 (by omega) (rd_n hM6 (by omega) (rd_s hM4)))
    | 2, _ => exact (rd_n hM8 (by omega) (rd_s hM6))
    | 3, _ => exact (rd_s hM8)), fun u k z => rd_n hM8 (by omega) (rd_n hM6 (by omega) (rd_n hM4 (by omega) (rd_n hM2 (by omega) (rfl))))⟩
set_option maxHeartbeats 4000000 in
set_option maxRecDepth 100000 in
theorem kc_tire {a : Nat} {v : Int32} (ha : (S a).1 = 7) (hsa : ∀ k, ¬ sc a k) : KK G sc yX6_tire cX6_tire 2 none 0 0 0 [.ref a, .int v] (n, S, M, L, P) (ansV (n, S, up2 M a 1 (if 0 < M a 1 - v then M a 1 - v else 0), L, P)) := by
  refine KK_of2 [(0, .ref a), (1, .int v)] (by decide +kernel) (Nat.le_of_ble_eq_true rfl) rfl ?_
  refine JJ_aload_n dX6_tire_0 rfl rfl ?_
  refine JJ_iconst (v := 0) dX6_tire_1 rfl ?_
  refine JJ_aload_n dX6_tire_2 rfl rfl ?_
  refine JJ_geti (v := M a 1) (cis := [6]) (k := 1) fa_X6_15 (by decide) ha rfl (hsa 1) rfl dX6_tire_3 ?_
  refine JJ_iload_n dX6_tire_6 rfl rfl ?_
  refine JJ_isub dX6_tire_7 ?_
  refine JJ_max lk_X6_24 tb_637 tb_83 tb_638 (Nat.le_of_ble_eq_true rfl) dX6_tire_8 ?_
  refine JJ_puti (cis := [6]) (k := 1) fa_X6_15 (by decide) ha rfl (fun r hr => by cases hr; exact ⟨rfl, by decide +kernel⟩) dX6_tire_11 (fun M1 hM2 => ?_)
  refine JJ_vret dX6_tire_14 rfl ?_
  exact ⟨rfl, mem_eq (by rw [hM2])⟩
set_option maxHeartbeats 4000000 in
set_option maxRecDepth 100000 in
theorem kc_go {a : Nat} {v : Int32} (ha : (S a).1 = 7) (hsa : ∀ k, ¬ sc a k) : KK G sc yX6_go cX6_go 2 none 1 0 0 [.ref a, .int v] (n, S, M, L, P) (ansV (n, S, up2 (up2 M a 1 (if 0 < M a 1 - s_far (M a 0) v then M a 1 - s_far (M a 0) v else 0)) a 0 v, L, P)) := by
  refine KK_of2 [(0, .ref a), (1, .int v)] (by decide +kernel) (Nat.le_of_ble_eq_true rfl) rfl ?_
  refine JJ_aload_n dX6_go_0 rfl rfl ?_
  refine JJ_aload_n dX6_go_1 rfl rfl ?_
  refine JJ_geti (v := M a 0) (cis := [6]) (k := 0) fa_X6_9 (by decide) ha rfl (hsa 0) rfl dX6_go_2 ?_
  refine JJ_iload_n dX6_go_5 rfl rfl ?_
  refine JJ_callSN (rest := [.ref a]) (kc_apart) (by omega) mi_X11_apart lk_X6_30 rfl (Nat.le_of_ble_eq_true rfl) rfl rfl dX6_go_6 ?_
  intro v1 μ2 h3
  obtain ⟨rfl, rfl⟩ := h3
  refine JJ_r1 ?_
  refine JJ_callV (rest := []) ha rfl rfl (kc_tire ha hsa) (by omega) mi_X6_tire lk_X6_33 rfl (Nat.le_of_ble_eq_true rfl) rfl rfl dX6_go_9 ?_
  intro v4 μ5 h6
  obtain ⟨rfl, rfl⟩ := h6
  refine JJ_r0 ?_
  refine JJ_aload_n dX6_go_12 rfl rfl ?_
  refine JJ_iload_n dX6_go_13 rfl rfl ?_
  refine JJ_puti (cis := [6]) (k := 0) fa_X6_9 (by decide) ha rfl (fun r hr => by cases hr; exact ⟨rfl, by decide +kernel⟩) dX6_go_14 (fun M7 hM8 => ?_)
  refine JJ_vret dX6_go_17 rfl ?_
  exact ⟨rfl, mem_eq (by rw [hM8])⟩
set_option maxHeartbeats 4000000 in
set_option maxRecDepth 100000 in
theorem kc_value {a q : Nat} (hq : q < 4) (ha : (S a).1 = 7) (hsa : ∀ k, ¬ sc a k) : KK G sc yX6_value cX6_value 2 (some .int) 0 0 0 [.ref a, .int (nI q)] (n, S, M, L, P) (ansI (M a q) (n, S, M, L, P)) := by
  rcases (by omega : q = 0 ∨ q = 1 ∨ q = 2 ∨ q = 3) with rfl | rfl | rfl | rfl
  · skip
    refine KK_of2 [(0, .ref a), (1, .int (nI 0))] (by decide +kernel) (Nat.le_of_ble_eq_true rfl) rfl ?_
    refine JJ_iload_n dX6_value_0 rfl rfl ?_
    refine JJ_tabIn (tgt := 28) 0 dX6_value_1 rfl (by decide) rfl (by decide) ?_
    refine JJ_aload_n dX6_value_28 rfl rfl ?_
    refine JJ_geti (v := M a 0) (cis := [6]) (k := 0) fa_X6_9 (by decide) ha rfl (hsa 0) rfl dX6_value_29 ?_
    refine JJ_iret dX6_value_32 rfl ?_
    exact ⟨rfl, rfl⟩
  · skip
    refine KK_of2 [(0, .ref a), (1, .int (nI 1))] (by decide +kernel) (Nat.le_of_ble_eq_true rfl) rfl ?_
    refine JJ_iload_n dX6_value_0 rfl rfl ?_
    refine JJ_tabIn (tgt := 33) 1 dX6_value_1 rfl (by decide) rfl (by decide) ?_
    refine JJ_aload_n dX6_value_33 rfl rfl ?_
    refine JJ_geti (v := M a 1) (cis := [6]) (k := 1) fa_X6_15 (by decide) ha rfl (hsa 1) rfl dX6_value_34 ?_
    refine JJ_iret dX6_value_37 rfl ?_
    exact ⟨rfl, rfl⟩
  · skip
    refine KK_of2 [(0, .ref a), (1, .int (nI 2))] (by decide +kernel) (Nat.le_of_ble_eq_true rfl) rfl ?_
    refine JJ_iload_n dX6_value_0 rfl rfl ?_
    refine JJ_tabIn (tgt := 38) 2 dX6_value_1 rfl (by decide) rfl (by decide) ?_
    refine JJ_aload_n dX6_value_38 rfl rfl ?_
    refine JJ_geti (v := M a 2) (cis := [6]) (k := 2) fa_X6_18 (by decide) ha rfl (hsa 2) rfl dX6_value_39 ?_
    refine JJ_iret dX6_value_42 rfl ?_
    exact ⟨rfl, rfl⟩
  · skip
    refine KK_of2 [(0, .ref a), (1, .int (nI 3))] (by decide +kernel) (Nat.le_of_ble_eq_true rfl) rfl ?_
    refine JJ_iload_n dX6_value_0 rfl rfl ?_
    refine JJ_tabOut (tgt := 43) dX6_value_1 (by decide) (by decide) ?_
    refine JJ_aload_n dX6_value_43 rfl rfl ?_
    refine JJ_geti (v := M a 3) (cis := [6]) (k := 3) fa_X6_21 (by decide) ha rfl (hsa 3) rfl dX6_value_44 ?_
    refine JJ_iret dX6_value_47 rfl ?_
    exact ⟨rfl, rfl⟩
set_option maxHeartbeats 4000000 in
set_option maxRecDepth 100000 in
theorem kc_change {a q : Nat} {v : Int32} (hq : q < 4) (ha : (S a).1 = 7) (hsa : ∀ k, ¬ sc a k) : KK G sc yX6_change cX6_change 4 (some .int) 1 0 0 [.ref a, .int (nI q), .int v] (n, S, M, L, P) (fun u μ => u = some (.int (M a q)) ∧ μ = (n, S, up2 M a q v, L, P)) := by
  rcases (by omega : q = 0 ∨ q = 1 ∨ q = 2 ∨ q = 3) with rfl | rfl | rfl | rfl
  · skip
    refine KK_of2 [(0, .ref a), (1, .int (nI 0)), (2, .int v)] (by decide +kernel) (Nat.le_of_ble_eq_true rfl) rfl ?_
    refine JJ_aload_n dX6_change_0 rfl rfl ?_
    refine JJ_iload_n dX6_change_1 rfl rfl ?_
    refine JJ_callV (rest := []) ha rfl rfl (kc_value (q := 0) (by decide) ha hsa) (by omega) mi_X6_value lk_X6_37 rfl (Nat.le_of_ble_eq_true rfl) rfl rfl dX6_change_2 ?_
    intro v1 μ2 h3
    obtain ⟨rfl, rfl⟩ := h3
    refine JJ_r1 ?_
    refine JJ_istore_n (lv' := [(3, .int (M a 0)), (0, .ref a), (1, .int (nI 0)), (2, .int v)]) dX6_change_5 rfl (by decide) rfl ?_
    refine JJ_iload_n dX6_change_6 rfl rfl ?_
    refine JJ_tabIn (tgt := 32) 0 dX6_change_7 rfl (by decide) rfl (by decide) ?_
    refine JJ_aload_n dX6_change_32 rfl rfl ?_
    refine JJ_iload_n dX6_change_33 rfl rfl ?_
    refine JJ_puti (cis := [6]) (k := 0) fa_X6_9 (by decide) ha rfl (fun r hr => by cases hr; exact ⟨rfl, by decide +kernel⟩) dX6_change_34 (fun M4 hM5 => ?_)
    refine JJ_goto (tgt := 61) dX6_change_37 (by decide) ?_
    refine JJ_iload_n dX6_change_61 rfl rfl ?_
    refine JJ_iret dX6_change_62 rfl ?_
    exact ⟨rfl, mem_eq (by rw [hM5])⟩
  · skip
    refine KK_of2 [(0, .ref a), (1, .int (nI 1)), (2, .int v)] (by decide +kernel) (Nat.le_of_ble_eq_true rfl) rfl ?_
    refine JJ_aload_n dX6_change_0 rfl rfl ?_
    refine JJ_iload_n dX6_change_1 rfl rfl ?_
    refine JJ_callV (rest := []) ha rfl rfl (kc_value (q := 1) (by decide) ha hsa) (by omega) mi_X6_value lk_X6_37 rfl (Nat.le_of_ble_eq_true rfl) rfl rfl dX6_change_2 ?_
    intro v6 μ7 h8
    obtain ⟨rfl, rfl⟩ := h8
    refine JJ_r1 ?_
    refine JJ_istore_n (lv' := [(3, .int (M a 1)), (0, .ref a), (1, .int (nI 1)), (2, .int v)]) dX6_change_5 rfl (by decide) rfl ?_
    refine JJ_iload_n dX6_change_6 rfl rfl ?_
    refine JJ_tabIn (tgt := 40) 1 dX6_change_7 rfl (by decide) rfl (by decide) ?_
    refine JJ_aload_n dX6_change_40 rfl rfl ?_
    refine JJ_iload_n dX6_change_41 rfl rfl ?_
    refine JJ_puti (cis := [6]) (k := 1) fa_X6_15 (by decide) ha rfl (fun r hr => by cases hr; exact ⟨rfl, by decide +kernel⟩) dX6_change_42 (fun M9 hM10 => ?_)
    refine JJ_goto (tgt := 61) dX6_change_45 (by decide) ?_
    refine JJ_iload_n dX6_change_61 rfl rfl ?_
    refine JJ_iret dX6_change_62 rfl ?_
    exact ⟨rfl, mem_eq (by rw [hM10])⟩
  · skip
    refine KK_of2 [(0, .ref a), (1, .int (nI 2)), (2, .int v)] (by decide +kernel) (Nat.le_of_ble_eq_true rfl) rfl ?_
    refine JJ_aload_n dX6_change_0 rfl rfl ?_
    refine JJ_iload_n dX6_change_1 rfl rfl ?_
    refine JJ_callV (rest := []) ha rfl rfl (kc_value (q := 2) (by decide) ha hsa) (by omega) mi_X6_value lk_X6_37 rfl (Nat.le_of_ble_eq_true rfl) rfl rfl dX6_change_2 ?_
    intro v11 μ12 h13
    obtain ⟨rfl, rfl⟩ := h13
    refine JJ_r1 ?_
    refine JJ_istore_n (lv' := [(3, .int (M a 2)), (0, .ref a), (1, .int (nI 2)), (2, .int v)]) dX6_change_5 rfl (by decide) rfl ?_
    refine JJ_iload_n dX6_change_6 rfl rfl ?_
    refine JJ_tabIn (tgt := 48) 2 dX6_change_7 rfl (by decide) rfl (by decide) ?_
    refine JJ_aload_n dX6_change_48 rfl rfl ?_
    refine JJ_iload_n dX6_change_49 rfl rfl ?_
    refine JJ_puti (cis := [6]) (k := 2) fa_X6_18 (by decide) ha rfl (fun r hr => by cases hr; exact ⟨rfl, by decide +kernel⟩) dX6_change_50 (fun M14 hM15 => ?_)
    refine JJ_goto (tgt := 61) dX6_change_53 (by decide) ?_
    refine JJ_iload_n dX6_change_61 rfl rfl ?_
    refine JJ_iret dX6_change_62 rfl ?_
    exact ⟨rfl, mem_eq (by rw [hM15])⟩
  · skip
    refine KK_of2 [(0, .ref a), (1, .int (nI 3)), (2, .int v)] (by decide +kernel) (Nat.le_of_ble_eq_true rfl) rfl ?_
    refine JJ_aload_n dX6_change_0 rfl rfl ?_
    refine JJ_iload_n dX6_change_1 rfl rfl ?_
    refine JJ_callV (rest := []) ha rfl rfl (kc_value (q := 3) (by decide) ha hsa) (by omega) mi_X6_value lk_X6_37 rfl (Nat.le_of_ble_eq_true rfl) rfl rfl dX6_change_2 ?_
    intro v16 μ17 h18
    obtain ⟨rfl, rfl⟩ := h18
    refine JJ_r1 ?_
    refine JJ_istore_n (lv' := [(3, .int (M a 3)), (0, .ref a), (1, .int (nI 3)), (2, .int v)]) dX6_change_5 rfl (by decide) rfl ?_
    refine JJ_iload_n dX6_change_6 rfl rfl ?_
    refine JJ_tabOut (tgt := 56) dX6_change_7 (by decide) (by decide) ?_
    refine JJ_aload_n dX6_change_56 rfl rfl ?_
    refine JJ_iload_n dX6_change_57 rfl rfl ?_
    refine JJ_puti (cis := [6]) (k := 3) fa_X6_21 (by decide) ha rfl (fun r hr => by cases hr; exact ⟨rfl, by decide +kernel⟩) dX6_change_58 (fun M19 hM20 => ?_)
    refine JJ_iload_n dX6_change_61 rfl rfl ?_
    refine JJ_iret dX6_change_62 rfl ?_
    exact ⟨rfl, mem_eq (by rw [hM20])⟩
end C1
