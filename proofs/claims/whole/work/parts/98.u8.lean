section C38
variable {G : Gx} {sc : Nat → Nat → Prop} {n : Nat} {S : Nat → Nat × Nat} {M : Nat → Nat → Int32} {L : Nat → Nat → Int64} {P : Nat → Nat → Option Nat} {x : Nat} {A B : Abs}

theorem nq_m1 {q : Nat} (h : q < 1000) : ¬ nI q = -1 := fun e => by
  have h1 := congrArg Int32.toInt e
  rw [nI_toInt (by omega)] at h1
  have z : (-1 : Int32).toInt = -1 := rfl
  omega
/-- a text is read: only the tape, the texts and their number changed -/
theorem text_cA {A' : Abs} {M2 : Nat → Nat → Int32} {P2 : Nat → Nat → Option Nat} (h : cABS x n S P M A) (he : ∀ b k, b ≠ 10 → b ≠ 12 → A'.1 b k = A.1 b k) (h10 : M2 x 2 = A'.1 10 0) (hT : TXS x M2 A') (hTP : TPS x M2 A') (hP : ∀ b k, b ≠ x + 2 → P2 b k = P b k)
    (hf : ∀ b k, x ≤ b → ¬ b = x + 2 → ¬ (b = x ∧ k = 2) → ¬ (x + 10 ≤ b ∧ b < x + 40) → M2 b k = M b k) : cABS x n S P2 M2 A' := by
  obtain ⟨a1, -, -, a4, a5, -, a7, hu⟩ := h
  have e8 := he 8 0 (by decide) (by decide)
  have ez : zcnt A' = zcnt A := by show i2n _ = i2n _; rw [e8]
  refine ⟨?_, h10, hT, ?_, ?_, hTP, ?_, hu⟩
  · have := a1.keep (M' := M2) (P' := P2) (fun k => ⟨hf _ _ (by omega) (by omega) (by omega) (by omega), hf _ _ (by omega) (by omega) (by omega) (by omega), hf _ _ (by omega) (by omega) (by omega) (by omega)⟩) (hP _ _ (by omega))
    unfold CTA at *
    rw [he 4 0 (by decide) (by decide), he 9 0 (by decide) (by decide)]
    refine ⟨this.1, fun p hp => ?_, this.2.2⟩
    rw [he 0 p (by decide) (by decide), he 1 p (by decide) (by decide), he 2 p (by decide) (by decide), he 3 p (by decide) (by decide)]
    exact this.2.1 p hp
  · have := a4.keep (M' := M2) (P' := P2) (hf _ _ (by omega) (by omega) (by omega) (by omega)) (fun b k z => hf _ _ (by omega) (by omega) (by omega) (by omega)) (fun k => hP _ _ (by omega))
    unfold STS at *
    rw [ez, e8]
    refine ⟨this.1, fun q hq => ?_, this.2.2⟩
    rw [he 5 q (by decide) (by decide), he 6 q (by decide) (by decide), he 7 q (by decide) (by decide)]
    exact this.2.1 q hq
  · have := a5.keep (M' := M2) (fun b k z1 z2 => hf _ _ (by omega) (by omega) (by omega) (by omega))
    intro s hs
    rw [he 16 s (by decide) (by decide), he 17 s (by decide) (by decide), he 18 s (by decide) (by decide)]
    have q := this s hs
    refine ⟨q.1, fun z => ⟨(q.2 z).1, fun j hj => ?_⟩⟩
    rw [he (20 + s) j (by omega) (by omega)]
    exact (q.2 z).2 j hj
  · have := a7.keep (M' := M2) (P' := P2) (hf _ _ (by omega) (by omega) (by omega) (by omega)) (fun b k z => hf _ _ (by omega) (by omega) (by omega) (by omega)) (hP _ _ (by omega))
    unfold IMS at *
    rw [he 15 0 (by decide) (by decide), he 15 1 (by decide) (by decide), he 15 2 (by decide) (by decide)]
    refine ⟨this.1, fun z => ?_⟩
    obtain ⟨q1, q2, q3, q4⟩ := this.2 z
    refine ⟨fun p hp => ?_, q2, q3, fun q hq => ?_⟩
    · rw [he 13 p (by decide) (by decide), he 13 _ (by decide) (by decide), he 13 _ (by decide) (by decide), he 13 _ (by decide) (by decide)]
      exact q1 p hp
    · rw [he 14 q (by decide) (by decide), he 14 _ (by decide) (by decide)]
      exact q4 q hq
set_option maxHeartbeats 4000000 in
set_option maxRecDepth 100000 in
theorem kc_text (hA : cABS x n S P M A) (hg2 : RNG2 A) (hC : CWF x S P) (hX : HSC x sc) : KK G sc yX11_text cX11_text 2 (some .int) 57 0 0 [.ref x] (n, S, M, L, P) (cI x n S M P (.int (zr_text A).1) (zr_text A).2) := by
  have hg : RNG A := hg2.1
  obtain ⟨t, ht1, ht6, ht, -⟩ := hg.2.2.2.2.2
  obtain ⟨m, hm160, hm⟩ := hg2.2.2.2.2.1
  have hti : i2n (A.1 10 0) = t := by rw [ht]; exact nI_clamp (by omega)
  have hmi : i2n (A.1 12 0) = m := by rw [hm]; exact nI_clamp (by omega)
  have hmM : M (x + 2) 1 = nI m := hA.2.2.2.2.2.1.1.trans hm
  by_cases h6 : t = 6
  · skip
    subst h6
    have e0 : zr_text A = (-4, A) := if_pos hti
    rw [e0]
    refine KK_of2 [(0, .ref x)] (by decide +kernel) (Nat.le_of_ble_eq_true rfl) rfl ?_
    refine JJ_aload_n dX11_text_0 rfl rfl ?_
    refine JJ_geti (v := nI 6) (cis := [11]) (k := 2) fa_X11_22 (by decide) (congrArg Prod.fst (hC.sh (t := 0) (k := 12) (m := 0) (by decide))) rfl (hX.1 _ _ (by omega) (by omega) (by omega)) (hA.2.1.trans ht) dX11_text_1 ?_
    refine JJ_bipush (v := 6) dX11_text_4 rfl ?_
    refine JJ_icmp_lt (tgt := 12) dX11_text_6 (by decide) (fun c1 => absurd c1 (by decide)) (fun _ => ?_)
    refine JJ_bipush (v := (-4)) dX11_text_9 rfl ?_
    refine JJ_iret dX11_text_11 rfl ?_
    exact cI_q rfl hA hC
  · skip
    have ht5 : t < 6 := by omega
    have hu : zr_text A = (match gText (A.1 11) m with | .inl q => (-100 - nI q, (zUp A 12 0 0)) | .inr (_, d0, d1, d2) => (nI t, (((zUp (zUp A 12 0 0) 10 0 (nI (t + 1))).1, fun i => if i = t then zEf d0 d1 d2 else A.2 i)))) := by
      unfold zr_text
      rw [if_neg (by rw [hti]; omega), hmi, hti]
      rfl
    refine KK_of2 [(0, .ref x)] (by decide +kernel) (Nat.le_of_ble_eq_true rfl) rfl ?_
    refine JJ_aload_n dX11_text_0 rfl rfl ?_
    refine JJ_geti (v := nI t) (cis := [11]) (k := 2) fa_X11_22 (by decide) (congrArg Prod.fst (hC.sh (t := 0) (k := 12) (m := 0) (by decide))) rfl (hX.1 _ _ (by omega) (by omega) (by omega)) (hA.2.1.trans ht) dX11_text_1 ?_
    refine JJ_bipush (v := 6) dX11_text_4 rfl ?_
    refine JJ_icmp_lt (tgt := 12) dX11_text_6 (by decide) (fun _ => ?_) (fun c2 => absurd (nI_lt1 (m := 6) (by omega) (by omega)) c2)
    refine JJ_aload_n dX11_text_12 rfl rfl ?_
    refine JJ_getr (q := x + 2) (cis := [11]) (k := 1) fa_X11_18 (by decide) (congrArg Prod.fst (hC.sh (t := 0) (k := 12) (m := 0) (by decide))) rfl (hC.rf (t := 0) (s := 1) (u := 2) (by decide)) dX11_text_13 ?_
    refine JJ_aload_n dX11_text_16 rfl rfl ?_
    refine JJ_getr (q := x + 1) (cis := [11]) (k := 0) fa_X11_11 (by decide) (congrArg Prod.fst (hC.sh (t := 0) (k := 12) (m := 0) (by decide))) rfl (hC.rf (t := 0) (s := 0) (u := 1) (by decide)) dX11_text_17 ?_
    refine JJ_aload_n dX11_text_20 rfl rfl ?_
    refine JJ_geti (v := nI t) (cis := [11]) (k := 2) fa_X11_22 (by decide) (congrArg Prod.fst (hC.sh (t := 0) (k := 12) (m := 0) (by decide))) rfl (hX.1 _ _ (by omega) (by omega) (by omega)) (hA.2.1.trans ht) dX11_text_21 ?_
    refine JJ_aaldX (t := 0) (q := x + 10 + 5 * t) (hC.sh (t := 1) (k := 22) (m := 6) (by decide)) (by decide) (IX_nI (by omega) (by omega)) (hC.txt ht5) dX11_text_24 ?_
    refine JJ_callV (rest := []) (congrArg Prod.fst (hC.sh (t := 2) (k := 10) (m := 0) (by decide))) rfl rfl (kc_readInto (b := M (x + 3)) (m := m) ht5 hmM hm160 (fun i => rfl) hC.t hX) (by omega) mi_X9_readInto lk_X11_87 rfl (Nat.le_of_ble_eq_true rfl) rfl rfl dX11_text_25 ?_
    intro v3 μ4 h5
    obtain ⟨w, Md, rfl, rfl, hrd, hfd⟩ := h5
    refine JJ_r1 ?_
    have hC2 : CWF x S (up2 P (x + 2) 2 (some (x + 10 + 5 * t))) := hC.into rfl
    have hb1 : ∀ i, i < m → M (x + 3) i = A.1 11 i := fun i hi => hA.2.2.2.2.2.1.2 i (by rw [hmi]; exact hi)
    have e1 : gText (M (x + 3)) m = gText (A.1 11) m := gText_cong hb1
    have hfe : ∀ b k, ¬ b = x + 2 → ¬ (b = x + 10 + 5 * t ∧ k = 5) → ¬ b = x + 10 + 5 * t + 1 → ¬ b = x + 10 + 5 * t + 4 → Md b k = M b k := fun b k z1 z2 z3 z4 => hfd b k (by unfold RCE RCH; omega)
    unfold RDO at hrd
    rw [e1] at hrd
    rcases hg1 : gText (A.1 11) m with q | ⟨cs, d0, d1, d2⟩
    · skip
      rw [hg1] at hrd hu
      obtain ⟨hw, hqm⟩ : w = nI q ∧ q ≤ m := hrd
      subst hw
      have e0 : zr_text A = (-100 - nI q, (zUp A 12 0 0)) := hu
      rw [e0]
      refine JJ_istore_n (lv' := [(1, .int (nI q)), (0, .ref x)]) dX11_text_28 rfl (by decide) rfl ?_
      refine JJ_aload_n dX11_text_29 rfl rfl ?_
      refine JJ_getr (q := x + 2) (cis := [11]) (k := 1) fa_X11_18 (by decide) (congrArg Prod.fst (hC.sh (t := 0) (k := 12) (m := 0) (by decide))) rfl (hC2.rf (t := 0) (s := 1) (u := 2) (by decide)) dX11_text_30 ?_
      refine JJ_iconst (v := 0) dX11_text_33 rfl ?_
      refine JJ_puti (cis := [9]) (k := 1) fa_X11_91 (by decide) (congrArg Prod.fst (hC.sh (t := 2) (k := 10) (m := 0) (by decide))) rfl (fun r hr => by cases hr; exact ⟨rfl, by decide +kernel⟩) dX11_text_34 (fun M6 hM7 => ?_)
      refine JJ_iload_n dX11_text_37 rfl rfl ?_
      refine JJ_iconst (v := (-1)) dX11_text_38 rfl ?_
      refine JJ_icmp_eq (tgt := 47) dX11_text_39 (by decide) (fun c8 => absurd c8 (nq_m1 (by omega))) (fun _ => ?_)
      refine JJ_bipush (v := (-100)) dX11_text_42 rfl ?_
      refine JJ_iload_n dX11_text_44 rfl rfl ?_
      refine JJ_isub dX11_text_45 ?_
      refine JJ_iret dX11_text_46 rfl ?_
      have hf3 : ∀ b k, ¬ b = x + 2 → ¬ (b = x + 10 + 5 * t ∧ k = 5) → ¬ b = x + 10 + 5 * t + 1 → ¬ b = x + 10 + 5 * t + 4 → M6 b k = M b k := fun b k z1 z2 z3 z4 => (rd_n hM7 (fun e => z1 e.1) rfl).trans (hfe b k z1 z2 z3 z4)
      have hT : TXS x M6 (zUp A 12 0 0) := by
        refine ⟨fun i hi => ?_, fun i hi => (hf3 _ _ (by omega) (by omega) (by omega) (by omega)).trans (hA.2.2.1.2 i hi)⟩
        rw [zUp_n (by decide), hti] at hi
        exact (hA.2.2.1.1 i (by rw [hti]; exact hi)).keep (fun k => hf3 _ _ (by omega) (by omega) (by omega) (by omega)) (fun k => hf3 _ _ (by omega) (by omega) (by omega) (by omega))
      have hTP : TPS x M6 (zUp A 12 0 0) := ⟨(rd_s hM7).trans zUp_e.symm, fun i hi => absurd hi (by rw [zUp_e, show i2n 0 = 0 from rfl]; omega)⟩
      exact ⟨rfl, n, S, M6, L, (up2 P (x + 2) 2 (some (x + 10 + 5 * t))), rfl, Nat.le_refl _, fun _ _ => rfl, hC2, text_cA hA (fun b k z1 z2 => zUp_n (fun e => z2 e.1)) ((hf3 _ _ (by omega) (by omega) (by omega) (by omega)).trans (hA.2.1.trans (zUp_n (by decide)).symm)) hT hTP (fun b k z => up2_n (fun e => z e.1)) (fun b k z z1 z2 z3 => hf3 _ _ (by omega) (by omega) (by omega) (by omega)), fun b k z => hf3 _ _ (fun e => z (by unfold cF; omega)) (fun e => z (by unfold cF; omega)) (fun e => z (by unfold cF; omega)) (fun e => z (by unfold cF; omega)), fun b k z => up2_n (fun e => z (by unfold cF; omega))⟩
    · skip
      rw [hg1] at hrd hu
      obtain ⟨hw, hTX⟩ : w = -1 ∧ TXC (x + 10 + 5 * t) Md (zEf d0 d1 d2) := hrd
      subst hw
      have e0 : zr_text A = (nI t, (((zUp (zUp A 12 0 0) 10 0 (nI (t + 1))).1, fun i => if i = t then zEf d0 d1 d2 else A.2 i))) := hu
      rw [e0]
      refine JJ_istore_n (lv' := [(1, .int ((-1))), (0, .ref x)]) dX11_text_28 rfl (by decide) rfl ?_
      refine JJ_aload_n dX11_text_29 rfl rfl ?_
      refine JJ_getr (q := x + 2) (cis := [11]) (k := 1) fa_X11_18 (by decide) (congrArg Prod.fst (hC.sh (t := 0) (k := 12) (m := 0) (by decide))) rfl (hC2.rf (t := 0) (s := 1) (u := 2) (by decide)) dX11_text_30 ?_
      refine JJ_iconst (v := 0) dX11_text_33 rfl ?_
      refine JJ_puti (cis := [9]) (k := 1) fa_X11_91 (by decide) (congrArg Prod.fst (hC.sh (t := 2) (k := 10) (m := 0) (by decide))) rfl (fun r hr => by cases hr; exact ⟨rfl, by decide +kernel⟩) dX11_text_34 (fun M9 hM10 => ?_)
      refine JJ_iload_n dX11_text_37 rfl rfl ?_
      refine JJ_iconst (v := (-1)) dX11_text_38 rfl ?_
      refine JJ_icmp_eq (tgt := 47) dX11_text_39 (by decide) (fun _ => ?_) (fun c11 => absurd (by decide) c11)
      refine JJ_aload_n dX11_text_47 rfl rfl ?_
      refine JJ_dup dX11_text_48 rfl ?_
      refine JJ_geti (v := nI t) (cis := [11]) (k := 2) fa_X11_22 (by decide) (congrArg Prod.fst (hC.sh (t := 0) (k := 12) (m := 0) (by decide))) rfl (hX.1 _ _ (by omega) (by omega) (by omega)) (rd_n hM10 (by omega) ((hfe _ _ (by omega) (by omega) (by omega) (by omega)).trans (hA.2.1.trans ht))) dX11_text_49 ?_
      refine JJ_iconst (v := 1) dX11_text_52 rfl ?_
      refine JJ_iadd dX11_text_53 ?_
      refine JJ_eqi (x2 := nI (t + 1)) (nI_add (t) (1)) ?_
      refine JJ_puti (cis := [11]) (k := 2) fa_X11_22 (by decide) (congrArg Prod.fst (hC.sh (t := 0) (k := 12) (m := 0) (by decide))) rfl (fun r hr => by cases hr; exact ⟨rfl, by decide +kernel⟩) dX11_text_54 (fun M12 hM13 => ?_)
      refine JJ_aload_n dX11_text_57 rfl rfl ?_
      refine JJ_geti (v := nI (t + 1)) (cis := [11]) (k := 2) fa_X11_22 (by decide) (congrArg Prod.fst (hC.sh (t := 0) (k := 12) (m := 0) (by decide))) rfl (hX.1 _ _ (by omega) (by omega) (by omega)) (rd_s hM13) dX11_text_58 ?_
      refine JJ_iconst (v := 1) dX11_text_61 rfl ?_
      refine JJ_isub dX11_text_62 ?_
      refine JJ_eqi (x2 := nI t) (pk_sub (a := t + 1) (b := 1) (by omega)) ?_
      refine JJ_iret dX11_text_63 rfl ?_
      have hf3 : ∀ b k, ¬ b = x + 2 → ¬ (b = x ∧ k = 2) → ¬ (b = x + 10 + 5 * t ∧ k = 5) → ¬ b = x + 10 + 5 * t + 1 → ¬ b = x + 10 + 5 * t + 4 → M12 b k = M b k := fun b k z1 z0 z2 z3 z4 => (rd_n hM13 z0 (rd_n hM10 (fun e => z1 e.1) rfl)).trans (hfe b k z1 z2 z3 z4)
      have he : ∀ b k, b ≠ 10 → b ≠ 12 → (zUp (zUp A 12 0 0) 10 0 (nI (t + 1))).1 b k = A.1 b k := fun b k z1 z2 => (zUp_n (fun e => z1 e.1)).trans (zUp_n (fun e => z2 e.1))
      have e12 : (zUp (zUp A 12 0 0) 10 0 (nI (t + 1))).1 12 0 = 0 := (zUp_n (by decide)).trans zUp_e
      have e10 : (zUp (zUp A 12 0 0) 10 0 (nI (t + 1))).1 10 0 = nI (t + 1) := zUp_e
      have hT : TXS x M12 (((zUp (zUp A 12 0 0) 10 0 (nI (t + 1))).1, fun i => if i = t then zEf d0 d1 d2 else A.2 i)) := by
        refine ⟨fun i hi => ?_, fun i hi => (hf3 _ _ (by omega) (by omega) (by omega) (by omega) (by omega)).trans (hA.2.2.1.2 i hi)⟩
        have hi : i < i2n ((zUp (zUp A 12 0 0) 10 0 (nI (t + 1))).1 10 0) := hi
        rw [zUp_e, show i2n (nI (t + 1)) = t + 1 from nI_clamp (by omega)] at hi
        by_cases ei : i = t
        · show TXC (x + 10 + 5 * i) M12 (if i = t then zEf d0 d1 d2 else A.2 i)
          rw [if_pos ei, ei]
          exact hTX.keep (fun k => rd_n hM13 (by omega) (rd_n hM10 (by omega) rfl)) (fun k => rd_n hM13 (by omega) (rd_n hM10 (by omega) rfl))
        · show TXC (x + 10 + 5 * i) M12 (if i = t then zEf d0 d1 d2 else A.2 i)
          rw [if_neg ei]
          exact (hA.2.2.1.1 i (by rw [hti]; omega)).keep (fun k => hf3 _ _ (by omega) (by omega) (by omega) (by omega) (by omega)) (fun k => hf3 _ _ (by omega) (by omega) (by omega) (by omega) (by omega))
      have hTP : TPS x M12 (((zUp (zUp A 12 0 0) 10 0 (nI (t + 1))).1, fun i => if i = t then zEf d0 d1 d2 else A.2 i)) := by
        refine ⟨(rd_n hM13 (by omega) (rd_s hM10)).trans e12.symm, fun i hi => ?_⟩
        have hi : i < i2n ((zUp (zUp A 12 0 0) 10 0 (nI (t + 1))).1 12 0) := hi
        rw [zUp_n (by decide), zUp_e, show i2n 0 = 0 from rfl] at hi
        omega
      exact ⟨rfl, n, S, M12, L, (up2 P (x + 2) 2 (some (x + 10 + 5 * t))), rfl, Nat.le_refl _, fun _ _ => rfl, hC2, text_cA hA he ((rd_s hM13).trans e10.symm) hT hTP (fun b k z => up2_n (fun e => z e.1)) (fun b k z z1 z2 z3 => hf3 _ _ (by omega) (by omega) (by omega) (by omega) (by omega)), fun b k z => hf3 _ _ (fun e => z (by unfold cF; omega)) (fun e => z (by unfold cF; omega)) (fun e => z (by unfold cF; omega)) (fun e => z (by unfold cF; omega)) (fun e => z (by unfold cF; omega)), fun b k z => up2_n (fun e => z (by unfold cF; omega))⟩
end C38
