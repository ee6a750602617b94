section C6
variable {G : Gx} {sc : Nat → Nat → Prop} {n : Nat} {S : Nat → Nat × Nat} {M : Nat → Nat → Int32} {L : Nat → Nat → Int64} {P : Nat → Nat → Option Nat} {x : Nat}

/-- what a stroke changes in a court -/
def CD (c b k : Nat) : Prop := (b = c ∧ k = 2) ∨ (b = c + 1 ∧ k < 2) ∨ (b = c + 2 ∧ k < 2)
theorem cG_ext {c p : Nat} {M' : Nat → Nat → Int32} {κ : Crt} (hp : p < 2) (h0 : M' (c + 1 + p) 0 = κ p) (h1 : M' (c + 1 + (1 - p)) 0 = κ (1 - p)) (h2 : M' (c + 1 + p) 1 = κ (2 + p)) (h3 : M' (c + 1 + (1 - p)) 1 = κ (2 + (1 - p))) (h4 : M' c 2 = κ 4) (h5 : ∀ j, 5 ≤ j → κ j = 0) : cG c M' = κ := by
  funext j
  by_cases j0 : j < 2
  · rw [cG0 j0]
    rcases two_c j0 hp with rfl | rfl <;> assumption
  · by_cases j1 : j < 4
    · obtain ⟨i, rfl⟩ : ∃ i, j = 2 + i := ⟨j - 2, by omega⟩
      rw [cG1 (by omega)]
      rcases two_c (show i < 2 by omega) hp with rfl | rfl <;> assumption
    · by_cases j2 : j = 4
      · rw [j2, cG4]; exact h4
      · rw [h5 j (by omega)]
        unfold cG
        rw [if_neg j0, if_neg j1, if_neg j2]
theorem cG_hi {c j : Nat} (h : 5 ≤ j) : cG c M j = 0 := by
  unfold cG
  rw [if_neg (by omega), if_neg (by omega), if_neg (by omega)]
theorem far_rng {u v : Int32} (hu : cv u) (hv : cv v) : 0 ≤ (s_far u v).toInt ∧ (s_far u v).toInt ≤ 4 := by
  obtain ⟨i, hi, rfl⟩ := n_of (m := 24) (by decide) hu
  obtain ⟨j, hj, rfl⟩ := n_of (m := 24) (by decide) hv
  have h : ∀ i, i ≤ 24 → ∀ j, j ≤ 24 → 0 ≤ (s_far (nI i) (nI j)).toInt ∧ (s_far (nI i) (nI j)).toInt ≤ 4 := by decide +kernel
  exact h i hi j hj
theorem spends_rng {kd nb : Int32} (h0 : 0 ≤ nb.toInt) (h1 : nb.toInt ≤ 9) : 0 ≤ (s_spends kd nb).toInt ∧ (s_spends kd nb).toInt ≤ 5 := by
  have hd : 0 ≤ (1 + nb / 2).toInt ∧ (1 + nb / 2).toInt ≤ 5 := by
    obtain ⟨k, hk, rfl⟩ := n_of (m := 9) (by decide) ⟨h0, h1⟩
    revert k
    decide +kernel
  unfold s_spends
  repeat' split
  · decide
  · decide
  · exact hd
  · decide
/-- legs that are left -/
theorem legs_e {l u : Int32} (hl : l.toInt ≤ 999) (hu : 0 ≤ u.toInt) (hu2 : u.toInt ≤ 1000) (h0 : 0 ≤ l.toInt) : (if 0 < l - u then l - u else 0) = s_within (l - u) 0 999 := by
  refine max0_w ?_
  obtain ⟨k, e1, e2, e3⟩ := i_sub l u
  rw [show (999 : Int32).toInt = 999 from rfl]
  omega
theorem warm_e {w : Int32} (h0 : 0 ≤ w.toInt) (h1 : w.toInt ≤ 99) : (if w + 1 < 99 then w + 1 else 99) = s_within (w + 1) 0 99 := by
  obtain ⟨k, hk, rfl⟩ := n_of (m := 99) (by decide) ⟨h0, h1⟩
  revert k
  decide +kernel
section JNM2
variable {y : MethodName} {cc : ByteArray} {nL : Nat} {ret : Option FieldType} {d kc ks : Nat} {Φ : Option Value → Mem → Prop} {pc : Nat} {lv : List (Nat × Value)} {st : List Value}
theorem JJ_nm2 {a k a' k' : Nat} {v v' : Int32} (h : ∀ M1, M1 = up2 M a k v → ∀ M2, M2 = up2 M1 a' k' v' → JJ G sc y cc nL ret d kc ks Φ pc lv st (n, S, M2, L, P)) : JJ G sc y cc nL ret d kc ks Φ pc lv st (n, S, up2 (up2 M a k v) a' k' v', L, P) := h _ rfl _ rfl
end JNM2
set_option maxHeartbeats 4000000 in
set_option maxRecDepth 100000 in
theorem kc_strike {c p : Nat} {E : RuleF} (hp : p < 2) {a : Nat} {kd nb am : Int32} (hst : STK S M a kd nb am) (hsa : ∀ k, ¬ sc a k) (hcl : cv (M (c + 1 + p) 0)) (hcq : cv (M (c + 1 + (1 - p)) 0)) (hho : M (c + 1 + p) 3 = -1 ∨ cv (M (c + 1 + p) 3)) (ham : cv am) (hl : 0 ≤ (M (c + 1 + p) 1).toInt ∧ (M (c + 1 + p) 1).toInt ≤ 999) (hl2 : 0 ≤ (M (c + 1 + (1 - p)) 1).toInt ∧ (M (c + 1 + (1 - p)) 1).toInt ≤ 999) (hw0 : 0 ≤ (M c 2).toInt) (hw1 : (M c 2).toInt ≤ 99) (hn0 : 0 ≤ nb.toInt ∧ nb.toInt ≤ 9) (hT : CRT x c P M E) (hC : CWF x S P) (hX : HSC x sc) : KK G sc yX1_strike cX1_strike 7 (some .boolean) 6 0 0 [.ref c, .int (nI p), .ref a] (n, S, M, L, P) (fun v μ => v = some (.int (b2 (s_win E (cQ c M) kd nb am p (cG c M)))) ∧ ∃ M', μ = (n, S, M', L, P) ∧ cG c M' = s_after E (cQ c M) (cH c M) kd nb am p (cG c M) ∧ ∀ b k, ¬ CD c b k → M' b k = M b k) := by
  have hnp : ∀ p, p < 2 → ∀ k, ¬ sc (c + 1 + p) k := fun p hp k => by rw [Nat.add_assoc]; exact hT.ns hX (by omega) k
  have hns := hnp p hp
  have hat := hT.at
  obtain ⟨r, hr, hr3, hE⟩ := hT.2
  have hq : 1 - p < 2 := by omega
  have hnq := hnp (1 - p) hq
  have hsr := spends_rng (kd := kd) hn0.1 hn0.2
  have hlg : (if 0 < M (c + 1 + p) 1 - s_spends kd nb then M (c + 1 + p) 1 - s_spends kd nb else 0) = s_legs1 kd nb p (cG c M) := by unfold s_legs1; rw [cG1 hp]; exact legs_e hl.2 hsr.1 (by omega) hl.1
  have hfq := far_rng hcq (cv_comes (kind := kd) (fr := M (c + 1 + p) 0) ham)
  have hlq : (if 0 < M (c + 1 + (1 - p)) 1 - s_far (M (c + 1 + (1 - p)) 0) (s_comes kd am (M (c + 1 + p) 0)) then M (c + 1 + (1 - p)) 1 - s_far (M (c + 1 + (1 - p)) 0) (s_comes kd am (M (c + 1 + p) 0)) else 0) = s_within (M (c + 1 + (1 - p)) 1 - s_far (M (c + 1 + (1 - p)) 0) (s_comes kd am (M (c + 1 + p) 0))) 0 999 := legs_e hl2.2 hfq.1 (by omega) hl2.1
  refine KK_of2 [(0, .ref c), (1, .int (nI p)), (2, .ref a)] (by decide +kernel) (Nat.le_of_ble_eq_true rfl) rfl ?_
  refine JJ_aload_n dX1_strike_0 rfl rfl ?_
  refine JJ_iload_n dX1_strike_1 rfl rfl ?_
  refine JJ_callV (rest := []) (congrArg Prod.fst (hT.sh hC).1) rfl rfl (kc_one (p := p) hp hT hC hX) (by omega) mi_X1_one lk_X1_66 rfl (Nat.le_of_ble_eq_true rfl) rfl rfl dX1_strike_2 ?_
  intro v1 μ2 h3
  obtain ⟨rfl, rfl⟩ := h3
  refine JJ_r1 ?_
  refine JJ_astore_n (lv' := [(3, .ref (c + 1 + p)), (0, .ref c), (1, .int (nI p)), (2, .ref a)]) dX1_strike_5 rfl (by decide) rfl ?_
  refine JJ_aload_n dX1_strike_6 rfl rfl ?_
  refine JJ_iconst (v := 1) dX1_strike_7 rfl ?_
  refine JJ_iload_n dX1_strike_8 rfl rfl ?_
  refine JJ_isub dX1_strike_9 ?_
  refine JJ_eqi (x2 := nI (1 - p)) (e_sub1 hp) ?_
  refine JJ_callV (rest := []) (congrArg Prod.fst (hT.sh hC).1) rfl rfl (kc_one (p := (1 - p)) hq hT hC hX) (by omega) mi_X1_one lk_X1_66 rfl (Nat.le_of_ble_eq_true rfl) rfl rfl dX1_strike_10 ?_
  intro v4 μ5 h6
  obtain ⟨rfl, rfl⟩ := h6
  refine JJ_r1 ?_
  refine JJ_astore (lv' := [(4, .ref (c + 1 + (1 - p))), (3, .ref (c + 1 + p)), (0, .ref c), (1, .int (nI p)), (2, .ref a)]) dX1_strike_13 (by decide) rfl ?_
  refine JJ_aload_n dX1_strike_15 rfl rfl ?_
  refine JJ_aload_n dX1_strike_16 rfl rfl ?_
  refine JJ_geti (v := M (c + 1 + p) 0) (cis := [6]) (k := 0) fa_X1_46 (by decide) (hT.pl hC hp) rfl (hns 0) rfl dX1_strike_17 ?_
  refine ju_X1_49 hst rfl hsa (by omega) (Nat.le_of_ble_eq_true rfl) dX1_strike_20 ?_
  refine JJ_istore (lv' := [(5, .int (s_comes kd am (M (c + 1 + p) 0))), (4, .ref (c + 1 + (1 - p))), (3, .ref (c + 1 + p)), (0, .ref c), (1, .int (nI p)), (2, .ref a)]) dX1_strike_23 (by decide) rfl ?_
  refine JJ_aload_n dX1_strike_25 rfl rfl ?_
  refine JJ_aload_n dX1_strike_26 rfl rfl ?_
  refine JJ_aload_n dX1_strike_27 rfl rfl ?_
  refine JJ_callV (rest := []) (congrArg Prod.fst (hT.sh hC).1) rfl rfl (kc_tenths (p := p) (E := E) hp hst hsa hT hC hX) (by omega) mi_X1_tenthsOf lk_X1_74 rfl (Nat.le_of_ble_eq_true rfl) rfl rfl dX1_strike_28 ?_
  intro v7 μ8 h9
  obtain ⟨rfl, rfl⟩ := h9
  refine JJ_r1 ?_
  refine JJ_istore (lv' := [(6, .int (s_tenths E (M c 2) (M (c + 1 + p) 1) (M (c + 1 + p) 2) kd nb (M (c + 1 + p) 0) (s_comes kd am (M (c + 1 + p) 0)))), (5, .int (s_comes kd am (M (c + 1 + p) 0))), (4, .ref (c + 1 + (1 - p))), (3, .ref (c + 1 + p)), (0, .ref c), (1, .int (nI p)), (2, .ref a)]) dX1_strike_31 (by decide) rfl ?_
  refine JJ_aload_n dX1_strike_33 rfl rfl ?_
  refine JJ_aload_n dX1_strike_34 rfl rfl ?_
  refine ju_X1_78 hst rfl hsa (by omega) (Nat.le_of_ble_eq_true rfl) dX1_strike_35 ?_
  refine JJ_callV (rest := []) (hT.pl hC hp) rfl rfl (kc_tire (hT.pl hC hp) hns) (by omega) mi_X6_tire lk_X1_82 rfl (Nat.le_of_ble_eq_true rfl) rfl rfl dX1_strike_38 ?_
  intro v10 μ11 h12
  obtain ⟨rfl, rfl⟩ := h12
  refine JJ_r0 ?_
  refine JJ_nm (fun M13 hM14 => ?_)
  rw [hlg] at hM14
  refine JJ_aload_n dX1_strike_41 rfl rfl ?_
  refine JJ_aload dX1_strike_42 rfl ?_
  refine JJ_aload dX1_strike_44 rfl ?_
  refine JJ_geti (v := M (c + 1 + (1 - p)) 0) (cis := [6]) (k := 0) fa_X1_46 (by decide) (hT.pl hC hq) rfl (hnq 0) (rd_n hM14 (by omega) rfl) dX1_strike_46 ?_
  refine JJ_iload dX1_strike_49 rfl ?_
  refine JJ_callV (rest := []) (congrArg Prod.fst (hT.sh hC).1) rfl rfl (kc_needs (p := (1 - p)) (E := E) hq (hT.keep (fun b k z1 z2 => (rd_n hM14 (by omega) rfl))) hC hX) (by omega) mi_X1_needsOf lk_X1_70 rfl (Nat.le_of_ble_eq_true rfl) rfl rfl dX1_strike_51 ?_
  intro v15 μ16 h17
  obtain ⟨rfl, rfl⟩ := h17
  refine JJ_r1 ?_
  refine JJ_eqi (x2 := s_needs E (M c 2) (M (c + 1 + (1 - p)) 1) (M (c + 1 + (1 - p)) 2) (M (c + 1 + (1 - p)) 0) (s_comes kd am (M (c + 1 + p) 0))) (by rw [(show M13 c 2 = M c 2 from (rd_n hM14 (by omega) rfl)), (show M13 (c + 1 + (1 - p)) 1 = M (c + 1 + (1 - p)) 1 from (rd_n hM14 (by omega) rfl)), (show M13 (c + 1 + (1 - p)) 2 = M (c + 1 + (1 - p)) 2 from (rd_n hM14 (by omega) rfl))]) ?_
  refine JJ_iload dX1_strike_54 rfl ?_
  refine JJ_icmp_le (tgt := 61) dX1_strike_56 (by decide) (fun c18 => ?_) (fun c18 => ?_)
  · skip
    refine JJ_aload dX1_strike_61 rfl ?_
    refine JJ_iload dX1_strike_63 rfl ?_
    refine JJ_callV (rest := []) (hT.pl hC hq) rfl rfl (kc_go (hT.pl hC hq) hnq) (by omega) mi_X6_go lk_X1_86 rfl (Nat.le_of_ble_eq_true rfl) rfl rfl dX1_strike_65 ?_
    intro v23 μ24 h25
    obtain ⟨rfl, rfl⟩ := h25
    refine JJ_r0 ?_
    rw [(show (if 0 < M13 (c + 1 + (1 - p)) 1 - s_far (M13 (c + 1 + (1 - p)) 0) (s_comes kd am (M (c + 1 + p) 0)) then M13 (c + 1 + (1 - p)) 1 - s_far (M13 (c + 1 + (1 - p)) 0) (s_comes kd am (M (c + 1 + p) 0)) else 0) = s_within (M (c + 1 + (1 - p)) 1 - s_far (M (c + 1 + (1 - p)) 0) (s_comes kd am (M (c + 1 + p) 0))) 0 999 by rw [show M13 (c + 1 + (1 - p)) 1 = M (c + 1 + (1 - p)) 1 from (rd_n hM14 (by omega) rfl), show M13 (c + 1 + (1 - p)) 0 = M (c + 1 + (1 - p)) 0 from (rd_n hM14 (by omega) rfl)]; exact hlq)]
    refine JJ_nm2 (fun M19 hM20 M21 hM22 => ?_)
    refine JJ_aload_n dX1_strike_68 rfl rfl ?_
    refine JJ_geti (v := M (c + 1 + p) 3) (cis := [6]) (k := 3) fa_X1_89 (by decide) (hT.pl hC hp) rfl (hns 3) (rd_n hM22 (by omega) (rd_n hM20 (by omega) (rd_n hM14 (by omega) rfl))) dX1_strike_69 ?_
    refine JJ_iconst (v := (-1)) dX1_strike_72 rfl ?_
    refine JJ_icmp_eq (tgt := 102) dX1_strike_73 (by decide) (fun c26 => ?_) (fun c26 => ?_)
    · skip
      refine JJ_aload_n dX1_strike_102 rfl rfl ?_
      refine JJ_bipush (v := 99) dX1_strike_103 rfl ?_
      refine JJ_aload_n dX1_strike_105 rfl rfl ?_
      refine JJ_geti (v := M c 2) (cis := [1]) (k := 2) fa_X1_21 (by decide) (congrArg Prod.fst (hT.sh hC).1) rfl (hT.ns hX (i := 0) (by decide) 2) (rd_n hM22 (by omega) (rd_n hM20 (by omega) (rd_n hM14 (by omega) rfl))) dX1_strike_106 ?_
      refine JJ_iconst (v := 1) dX1_strike_109 rfl ?_
      refine JJ_iadd dX1_strike_110 ?_
      refine JJ_min lk_X1_92 tb_654 tb_83 tb_655 (Nat.le_of_ble_eq_true rfl) dX1_strike_111 ?_
      refine JJ_eqi (x2 := s_within (M c 2 + 1) 0 99) (warm_e hw0 hw1) ?_
      refine JJ_puti (cis := [1]) (k := 2) fa_X1_21 (by decide) (congrArg Prod.fst (hT.sh hC).1) rfl (fun r hr => by cases hr; exact ⟨rfl, by decide +kernel⟩) dX1_strike_114 (fun M27 hM28 => ?_)
      refine JJ_iconst (v := 0) dX1_strike_117 rfl ?_
      refine JJ_zret dX1_strike_118 rfl (Or.inl rfl) ?_
      have hwn : ¬ s_win E (cQ c M) kd nb am p (cG c M) := fun z => Int32.not_lt.mpr c18 ((s_win_c hp).mp z)
      have hho : ¬ s_home E (cQ c M) (cH c M) kd nb am p (cG c M) := fun z => ((show s_home E (cQ c M) (cH c M) kd nb am p (cG c M) ↔ (¬ M (c + 1 + p) 3 = -1 ∧ s_needs E (M c 2) (s_legs1 kd nb p (cG c M)) (M (c + 1 + p) 2) (M (c + 1 + p) 0) (M (c + 1 + p) 3) ≤ s_tenths E (M c 2) (M (c + 1 + p) 1) (M (c + 1 + p) 2) kd nb (M (c + 1 + p) 0) (s_comes kd am (M (c + 1 + p) 0))) from by unfold s_home s_t s_to; rw [cHe hp, cG0 hp, cG1 hp, cG4, cQe hp]).mp z).1 c26
      obtain ⟨s1, s2, s3, s4, s5⟩ := sa_n (hm := cH c M) hwn hp
      rw [if_neg hho] at s2 s4
      exact ⟨by rw [b2_f hwn], M27, rfl, cG_ext hp ((rd_n hM28 (by omega) (rd_n hM22 (by omega) (rd_n hM20 (by omega) (rd_n hM14 (by omega) rfl)))).trans (by rw [s2, cG0 hp])) ((rd_n hM28 (by omega) (rd_s hM22)).trans (by rw [s3]; unfold s_to; rw [cG0 hp])) ((rd_n hM28 (by omega) (rd_n hM22 (by omega) (rd_n hM20 (by omega) (rd_s hM14)))).trans (by rw [s4])) ((rd_n hM28 (by omega) (rd_n hM22 (by omega) (rd_s hM20))).trans (by rw [s5]; unfold s_to; rw [cG0 hp, cG0 hq, cG1 hq])) ((rd_s hM28).trans (by rw [s1, cG4])) (fun j hj => by rw [sa_hi hp hj]; exact cG_hi hj), fun b k z => (rd_n hM28 (fun e => z (by unfold CD; omega)) (rd_n hM22 (fun e => z (by unfold CD; omega)) (rd_n hM20 (fun e => z (by unfold CD; omega)) (rd_n hM14 (fun e => z (by unfold CD; omega)) rfl))))⟩
    · skip
      refine JJ_aload_n dX1_strike_76 rfl rfl ?_
      refine JJ_aload_n dX1_strike_77 rfl rfl ?_
      refine JJ_aload_n dX1_strike_78 rfl rfl ?_
      refine JJ_geti (v := M (c + 1 + p) 0) (cis := [6]) (k := 0) fa_X1_46 (by decide) (hT.pl hC hp) rfl (hns 0) (rd_n hM22 (by omega) (rd_n hM20 (by omega) (rd_n hM14 (by omega) rfl))) dX1_strike_79 ?_
      refine JJ_aload_n dX1_strike_82 rfl rfl ?_
      refine JJ_geti (v := M (c + 1 + p) 3) (cis := [6]) (k := 3) fa_X1_89 (by decide) (hT.pl hC hp) rfl (hns 3) (rd_n hM22 (by omega) (rd_n hM20 (by omega) (rd_n hM14 (by omega) rfl))) dX1_strike_83 ?_
      refine JJ_callV (rest := []) (congrArg Prod.fst (hT.sh hC).1) rfl rfl (kc_needs (p := p) (E := E) hp (hT.keep (fun b k z1 z2 => (rd_n hM22 (by omega) (rd_n hM20 (by omega) (rd_n hM14 (by omega) rfl))))) hC hX) (by omega) mi_X1_needsOf lk_X1_70 rfl (Nat.le_of_ble_eq_true rfl) rfl rfl dX1_strike_86 ?_
      intro v29 μ30 h31
      obtain ⟨rfl, rfl⟩ := h31
      refine JJ_r1 ?_
      refine JJ_eqi (x2 := s_needs E (M c 2) (s_legs1 kd nb p (cG c M)) (M (c + 1 + p) 2) (M (c + 1 + p) 0) (M (c + 1 + p) 3)) (by rw [(show M21 c 2 = M c 2 from (rd_n hM22 (by omega) (rd_n hM20 (by omega) (rd_n hM14 (by omega) rfl)))), (show M21 (c + 1 + p) 1 = s_legs1 kd nb p (cG c M) from (rd_n hM22 (by omega) (rd_n hM20 (by omega) (rd_s hM14)))), (show M21 (c + 1 + p) 2 = M (c + 1 + p) 2 from (rd_n hM22 (by omega) (rd_n hM20 (by omega) (rd_n hM14 (by omega) rfl))))]) ?_
      refine JJ_iload dX1_strike_89 rfl ?_
      refine JJ_icmp_gt (tgt := 102) dX1_strike_91 (by decide) (fun c32 => ?_) (fun c32 => ?_)
      · skip
        refine JJ_aload_n dX1_strike_102 rfl rfl ?_
        refine JJ_bipush (v := 99) dX1_strike_103 rfl ?_
        refine JJ_aload_n dX1_strike_105 rfl rfl ?_
        refine JJ_geti (v := M c 2) (cis := [1]) (k := 2) fa_X1_21 (by decide) (congrArg Prod.fst (hT.sh hC).1) rfl (hT.ns hX (i := 0) (by decide) 2) (rd_n hM22 (by omega) (rd_n hM20 (by omega) (rd_n hM14 (by omega) rfl))) dX1_strike_106 ?_
        refine JJ_iconst (v := 1) dX1_strike_109 rfl ?_
        refine JJ_iadd dX1_strike_110 ?_
        refine JJ_min lk_X1_92 tb_654 tb_83 tb_655 (Nat.le_of_ble_eq_true rfl) dX1_strike_111 ?_
        refine JJ_eqi (x2 := s_within (M c 2 + 1) 0 99) (warm_e hw0 hw1) ?_
        refine JJ_puti (cis := [1]) (k := 2) fa_X1_21 (by decide) (congrArg Prod.fst (hT.sh hC).1) rfl (fun r hr => by cases hr; exact ⟨rfl, by decide +kernel⟩) dX1_strike_114 (fun M33 hM34 => ?_)
        refine JJ_iconst (v := 0) dX1_strike_117 rfl ?_
        refine JJ_zret dX1_strike_118 rfl (Or.inl rfl) ?_
        have hwn : ¬ s_win E (cQ c M) kd nb am p (cG c M) := fun z => Int32.not_lt.mpr c18 ((s_win_c hp).mp z)
        have hho : ¬ s_home E (cQ c M) (cH c M) kd nb am p (cG c M) := fun z => Int32.not_lt.mpr ((show s_home E (cQ c M) (cH c M) kd nb am p (cG c M) ↔ (¬ M (c + 1 + p) 3 = -1 ∧ s_needs E (M c 2) (s_legs1 kd nb p (cG c M)) (M (c + 1 + p) 2) (M (c + 1 + p) 0) (M (c + 1 + p) 3) ≤ s_tenths E (M c 2) (M (c + 1 + p) 1) (M (c + 1 + p) 2) kd nb (M (c + 1 + p) 0) (s_comes kd am (M (c + 1 + p) 0))) from by unfold s_home s_t s_to; rw [cHe hp, cG0 hp, cG1 hp, cG4, cQe hp]).mp z).2 c32
        obtain ⟨s1, s2, s3, s4, s5⟩ := sa_n (hm := cH c M) hwn hp
        rw [if_neg hho] at s2 s4
        exact ⟨by rw [b2_f hwn], M33, rfl, cG_ext hp ((rd_n hM34 (by omega) (rd_n hM22 (by omega) (rd_n hM20 (by omega) (rd_n hM14 (by omega) rfl)))).trans (by rw [s2, cG0 hp])) ((rd_n hM34 (by omega) (rd_s hM22)).trans (by rw [s3]; unfold s_to; rw [cG0 hp])) ((rd_n hM34 (by omega) (rd_n hM22 (by omega) (rd_n hM20 (by omega) (rd_s hM14)))).trans (by rw [s4])) ((rd_n hM34 (by omega) (rd_n hM22 (by omega) (rd_s hM20))).trans (by rw [s5]; unfold s_to; rw [cG0 hp, cG0 hq, cG1 hq])) ((rd_s hM34).trans (by rw [s1, cG4])) (fun j hj => by rw [sa_hi hp hj]; exact cG_hi hj), fun b k z => (rd_n hM34 (fun e => z (by unfold CD; omega)) (rd_n hM22 (fun e => z (by unfold CD; omega)) (rd_n hM20 (fun e => z (by unfold CD; omega)) (rd_n hM14 (fun e => z (by unfold CD; omega)) rfl))))⟩
      · skip
        have hfh := far_rng hcl (hho.resolve_left c26)
        have hlh : (if 0 < s_legs1 kd nb p (cG c M) - s_far (M (c + 1 + p) 0) (M (c + 1 + p) 3) then s_legs1 kd nb p (cG c M) - s_far (M (c + 1 + p) 0) (M (c + 1 + p) 3) else 0) = s_within (s_legs1 kd nb p (cG c M) - s_far (M (c + 1 + p) 0) (M (c + 1 + p) 3)) 0 999 := legs_e (wi_rng (m := 999) (by decide)).2 hfh.1 (by omega) (wi_rng (by decide)).1
        refine JJ_aload_n dX1_strike_94 rfl rfl ?_
        refine JJ_aload_n dX1_strike_95 rfl rfl ?_
        refine JJ_geti (v := M (c + 1 + p) 3) (cis := [6]) (k := 3) fa_X1_89 (by decide) (hT.pl hC hp) rfl (hns 3) (rd_n hM22 (by omega) (rd_n hM20 (by omega) (rd_n hM14 (by omega) rfl))) dX1_strike_96 ?_
        refine JJ_callV (rest := []) (hT.pl hC hp) rfl rfl (kc_go (hT.pl hC hp) hns) (by omega) mi_X6_go lk_X1_86 rfl (Nat.le_of_ble_eq_true rfl) rfl rfl dX1_strike_99 ?_
        intro v39 μ40 h41
        obtain ⟨rfl, rfl⟩ := h41
        refine JJ_r0 ?_
        rw [(show (if 0 < M21 (c + 1 + p) 1 - s_far (M21 (c + 1 + p) 0) (M (c + 1 + p) 3) then M21 (c + 1 + p) 1 - s_far (M21 (c + 1 + p) 0) (M (c + 1 + p) 3) else 0) = s_within (s_legs1 kd nb p (cG c M) - s_far (M (c + 1 + p) 0) (M (c + 1 + p) 3)) 0 999 by rw [show M21 (c + 1 + p) 1 = s_legs1 kd nb p (cG c M) from (rd_n hM22 (by omega) (rd_n hM20 (by omega) (rd_s hM14))), show M21 (c + 1 + p) 0 = M (c + 1 + p) 0 from (rd_n hM22 (by omega) (rd_n hM20 (by omega) (rd_n hM14 (by omega) rfl)))]; exact hlh)]
        refine JJ_nm2 (fun M35 hM36 M37 hM38 => ?_)
        refine JJ_aload_n dX1_strike_102 rfl rfl ?_
        refine JJ_bipush (v := 99) dX1_strike_103 rfl ?_
        refine JJ_aload_n dX1_strike_105 rfl rfl ?_
        refine JJ_geti (v := M c 2) (cis := [1]) (k := 2) fa_X1_21 (by decide) (congrArg Prod.fst (hT.sh hC).1) rfl (hT.ns hX (i := 0) (by decide) 2) (rd_n hM38 (by omega) (rd_n hM36 (by omega) (rd_n hM22 (by omega) (rd_n hM20 (by omega) (rd_n hM14 (by omega) rfl))))) dX1_strike_106 ?_
        refine JJ_iconst (v := 1) dX1_strike_109 rfl ?_
        refine JJ_iadd dX1_strike_110 ?_
        refine JJ_min lk_X1_92 tb_654 tb_83 tb_655 (Nat.le_of_ble_eq_true rfl) dX1_strike_111 ?_
        refine JJ_eqi (x2 := s_within (M c 2 + 1) 0 99) (warm_e hw0 hw1) ?_
        refine JJ_puti (cis := [1]) (k := 2) fa_X1_21 (by decide) (congrArg Prod.fst (hT.sh hC).1) rfl (fun r hr => by cases hr; exact ⟨rfl, by decide +kernel⟩) dX1_strike_114 (fun M42 hM43 => ?_)
        refine JJ_iconst (v := 0) dX1_strike_117 rfl ?_
        refine JJ_zret dX1_strike_118 rfl (Or.inl rfl) ?_
        have hwn : ¬ s_win E (cQ c M) kd nb am p (cG c M) := fun z => Int32.not_lt.mpr c18 ((s_win_c hp).mp z)
        have hho : s_home E (cQ c M) (cH c M) kd nb am p (cG c M) := (show s_home E (cQ c M) (cH c M) kd nb am p (cG c M) ↔ (¬ M (c + 1 + p) 3 = -1 ∧ s_needs E (M c 2) (s_legs1 kd nb p (cG c M)) (M (c + 1 + p) 2) (M (c + 1 + p) 0) (M (c + 1 + p) 3) ≤ s_tenths E (M c 2) (M (c + 1 + p) 1) (M (c + 1 + p) 2) kd nb (M (c + 1 + p) 0) (s_comes kd am (M (c + 1 + p) 0))) from by unfold s_home s_t s_to; rw [cHe hp, cG0 hp, cG1 hp, cG4, cQe hp]).mpr ⟨c26, Int32.not_lt.mp c32⟩
        obtain ⟨s1, s2, s3, s4, s5⟩ := sa_n (hm := cH c M) hwn hp
        rw [if_pos hho] at s2 s4
        exact ⟨by rw [b2_f hwn], M42, rfl, cG_ext hp ((rd_n hM43 (by omega) (rd_s hM38)).trans (by rw [s2, cHe hp])) ((rd_n hM43 (by omega) (rd_n hM38 (by omega) (rd_n hM36 (by omega) (rd_s hM22)))).trans (by rw [s3]; unfold s_to; rw [cG0 hp])) ((rd_n hM43 (by omega) (rd_n hM38 (by omega) (rd_s hM36))).trans (by rw [s4, cHe hp, cG0 hp])) ((rd_n hM43 (by omega) (rd_n hM38 (by omega) (rd_n hM36 (by omega) (rd_n hM22 (by omega) (rd_s hM20))))).trans (by rw [s5]; unfold s_to; rw [cG0 hp, cG0 hq, cG1 hq])) ((rd_s hM43).trans (by rw [s1, cG4])) (fun j hj => by rw [sa_hi hp hj]; exact cG_hi hj), fun b k z => (rd_n hM43 (fun e => z (by unfold CD; omega)) (rd_n hM38 (fun e => z (by unfold CD; omega)) (rd_n hM36 (fun e => z (by unfold CD; omega)) (rd_n hM22 (fun e => z (by unfold CD; omega)) (rd_n hM20 (fun e => z (by unfold CD; omega)) (rd_n hM14 (fun e => z (by unfold CD; omega)) rfl))))))⟩
  · skip
    refine JJ_iconst (v := 1) dX1_strike_59 rfl ?_
    refine JJ_zret dX1_strike_60 rfl (Or.inr rfl) ?_
    have hwn : s_win E (cQ c M) kd nb am p (cG c M) := (s_win_c hp).mpr (Int32.not_le.mp c18)
    obtain ⟨s1, s2⟩ := sa_w (hm := cH c M) hwn
    exact ⟨by rw [b2_t hwn], M13, rfl, cG_ext hp ((rd_n hM14 (by omega) rfl).trans (by rw [s2 p (by omega), cG0 hp])) ((rd_n hM14 (by omega) rfl).trans (by rw [s2 (1 - p) (by omega), cG0 hq])) ((rd_s hM14).trans s1.symm) ((rd_n hM14 (by omega) rfl).trans (by rw [s2 _ (by omega), cG1 hq])) ((rd_n hM14 (by omega) rfl).trans (by rw [s2 4 (by omega), cG4])) (fun j hj => by rw [sa_hi hp hj]; exact cG_hi hj), fun b k z => (rd_n hM14 (fun e => z (by unfold CD; omega)) rfl)⟩
/-- a court of the class -/
def CRT0 (x c : Nat) : Prop := ∃ j, j < 9 ∧ c = x + 40 + 3 * j
section CT0
variable {c : Nat}
theorem CRT0.at (h : CRT0 x c) : x + 40 ≤ c ∧ c + 3 ≤ x + 67 := by
  obtain ⟨j, hj, rfl⟩ := h
  omega
theorem CRT0.sh (h : CRT0 x c) (hC : CWF x S P) : S c = (2, 0) ∧ S (c + 1) = (7, 0) ∧ S (c + 2) = (7, 0) ∧ P c 0 = some (c + 1) ∧ P c 1 = some (c + 2) := by
  obtain ⟨j, hj, rfl⟩ := h
  exact hC.2.2.2.1 j hj
theorem CRT0.pl (h : CRT0 x c) (hC : CWF x S P) {p : Nat} (hp : p < 2) : (S (c + 1 + p)).1 = 7 := by
  obtain ⟨-, h1, h2, -⟩ := h.sh hC
  rcases (by omega : p = 0 ∨ p = 1) with rfl | rfl
  · rw [h1]
  · rw [show c + 1 + 1 = c + 2 from rfl, h2]
theorem CRT0.ns (h : CRT0 x c) (hX : HSC x sc) {i : Nat} (hi : i < 3) (k : Nat) : ¬ sc (c + i) k := hX.1 _ _ (by have := h.at; omega) (by have := h.at; omega) (by have := h.at; omega)
end CT0

set_option maxHeartbeats 4000000 in
set_option maxRecDepth 100000 in
theorem kc_take {c e u : Nat} (hce : c ≠ e) (hT : CRT0 x c) (hT2 : CRT0 x e) (hu : P e 3 = some u) (hC : CWF x S P) (hX : HSC x sc) : KK G sc yX1_take cX1_take 2 none 1 0 0 [.ref c, .ref e] (n, S, M, L, P) (fun v μ => v = none ∧ ∃ M' P', μ = (n, S, M', L, P') ∧ (∀ p k, p < 2 → k < 4 → M' (c + 1 + p) k = M (e + 1 + p) k) ∧ M' c 2 = M e 2 ∧ (∀ b k, ¬ (b = c ∧ k = 2) ∧ ¬ (b = c + 1 ∧ k < 4) ∧ ¬ (b = c + 2 ∧ k < 4) → M' b k = M b k) ∧ P' = up2 P c 3 (some u)) := by
  have hat := hT.at
  have hat2 := hT2.at
  obtain ⟨jc, hjc, ejc⟩ := hT
  obtain ⟨je, hje, eje⟩ := hT2
  have hT : CRT0 x c := ⟨jc, hjc, ejc⟩
  have hT2 : CRT0 x e := ⟨je, hje, eje⟩
  refine KK_of2 [(0, .ref c), (1, .ref e)] (by decide +kernel) (Nat.le_of_ble_eq_true rfl) rfl ?_
  refine JJ_aload_n dX1_take_0 rfl rfl ?_
  refine JJ_getr (q := c + 1) (cis := [1]) (k := 0) fa_X1_12 (by decide) (congrArg Prod.fst (hT.sh hC).1) rfl (hT.sh hC).2.2.2.1 dX1_take_1 ?_
  refine JJ_aload_n dX1_take_4 rfl rfl ?_
  refine JJ_getr (q := e + 1) (cis := [1]) (k := 0) fa_X1_12 (by decide) (congrArg Prod.fst (hT2.sh hC).1) rfl (hT2.sh hC).2.2.2.1 dX1_take_5 ?_
  refine JJ_callV (rest := []) (hT.pl hC (p := 0) (by decide)) rfl rfl (kc_ptake (hT.pl hC (p := 0) (by decide)) (hT2.pl hC (p := 0) (by decide)) (by omega) (hT.ns hX (i := 1) (by decide)) (hT2.ns hX (i := 1) (by decide))) (by omega) mi_X6_take lk_X1_29 rfl (Nat.le_of_ble_eq_true rfl) rfl rfl dX1_take_8 ?_
  intro v1 μ2 h3
  obtain ⟨rfl, Mt1, rfl, hct1, hft1⟩ := h3
  refine JJ_r0 ?_
  refine JJ_aload_n dX1_take_11 rfl rfl ?_
  refine JJ_getr (q := c + 2) (cis := [1]) (k := 1) fa_X1_18 (by decide) (congrArg Prod.fst (hT.sh hC).1) rfl (hT.sh hC).2.2.2.2 dX1_take_12 ?_
  refine JJ_aload_n dX1_take_15 rfl rfl ?_
  refine JJ_getr (q := e + 2) (cis := [1]) (k := 1) fa_X1_18 (by decide) (congrArg Prod.fst (hT2.sh hC).1) rfl (hT2.sh hC).2.2.2.2 dX1_take_16 ?_
  refine JJ_callV (rest := []) (hT.pl hC (p := 1) (by decide)) rfl rfl (kc_ptake (hT.pl hC (p := 1) (by decide)) (hT2.pl hC (p := 1) (by decide)) (by omega) (hT.ns hX (i := 2) (by decide)) (hT2.ns hX (i := 2) (by decide))) (by omega) mi_X6_take lk_X1_29 rfl (Nat.le_of_ble_eq_true rfl) rfl rfl dX1_take_19 ?_
  intro v4 μ5 h6
  obtain ⟨rfl, Mt2, rfl, hct2, hft2⟩ := h6
  refine JJ_r0 ?_
  refine JJ_aload_n dX1_take_22 rfl rfl ?_
  refine JJ_aload_n dX1_take_23 rfl rfl ?_
  refine JJ_geti (v := M e 2) (cis := [1]) (k := 2) fa_X1_21 (by decide) (congrArg Prod.fst (hT2.sh hC).1) rfl (hT2.ns hX (i := 0) (by decide) 2) ((hft2 _ _ (by omega)).trans ((hft1 _ _ (by omega)).trans rfl)) dX1_take_24 ?_
  refine JJ_puti (cis := [1]) (k := 2) fa_X1_21 (by decide) (congrArg Prod.fst (hT.sh hC).1) rfl (fun r hr => by cases hr; exact ⟨rfl, by decide +kernel⟩) dX1_take_27 (fun M7 hM8 => ?_)
  refine JJ_aload_n dX1_take_30 rfl rfl ?_
  refine JJ_aload_n dX1_take_31 rfl rfl ?_
  refine JJ_getr (q := u) (cis := [1]) (k := 3) fa_X1_25 (by decide) (congrArg Prod.fst (hT2.sh hC).1) rfl hu dX1_take_32 ?_
  refine JJ_putr (ty := .object "MiddleOfCourt$Text") (cis := [1]) (k := 3) fa_X1_25 (by decide) (congrArg Prod.fst (hT.sh hC).1) rfl (fun r hr => by cases hr; exact ⟨rfl, by decide +kernel⟩) rfl rfl dX1_take_35 (fun P9 hP10 => ?_)
  refine JJ_vret dX1_take_38 rfl ?_
  exact ⟨rfl, M7, P9, rfl, fun p k hp hk => (by
    rcases (by omega : p = 0 ∨ p = 1) with rfl | rfl
    · exact rd_n hM8 (by omega) ((hft2 _ _ (by omega)).trans (hct1 k hk))
    · exact rd_n hM8 (by omega) ((hct2 k hk).trans (hft1 _ _ (by omega)))), rd_s hM8, fun b k z => rd_n hM8 (by omega) ((hft2 _ _ (by omega)).trans (hft1 _ _ (by omega))), hP10⟩
end C6
