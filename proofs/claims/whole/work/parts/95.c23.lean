section C23
variable {G : Gx} {sc : Nat → Nat → Prop} {n : Nat} {S : Nat → Nat × Nat} {M M' : Nat → Nat → Int32} {L : Nat → Nat → Int64} {P P' : Nat → Nat → Option Nat} {x : Nat} {A B : Abs}

theorem CTA_eq {c : Nat} (hc : CTA x c P M A) (he : ∀ b k, b < 5 ∨ b = 9 → B.1 b k = A.1 b k) : CTA x c P M B := by
  unfold CTA at *
  rw [he 4 0 (by omega), he 9 0 (by omega)]
  refine ⟨hc.1, fun p hp => ?_, hc.2.2⟩
  rw [he 0 p (by omega), he 1 p (by omega), he 2 p (by omega), he 3 p (by omega)]
  exact hc.2.1 p hp
theorem TXS_eq (h : TXS x M A) (h10 : B.1 10 0 = A.1 10 0) (h2 : B.2 = A.2) : TXS x M B := ⟨fun i hi => by rw [h2]; exact h.1 i (by rw [← h10]; exact hi), h.2⟩
theorem STS_eq (h : STS x n S P M A) (he : ∀ b k, 5 ≤ b ∧ b ≤ 8 → B.1 b k = A.1 b k) : STS x n S P M B := by
  have ez : zcnt B = zcnt A := by show i2n _ = i2n _; rw [he 8 0 (by omega)]
  unfold STS at *
  rw [ez, he 8 0 (by omega)]
  refine ⟨h.1, fun q hq => ?_, h.2.2⟩
  rw [he 5 q (by omega), he 6 q (by omega), he 7 q (by omega)]
  exact h.2.1 q hq
theorem SHS_eq (h : SHS x M A) (he : ∀ b k, 16 ≤ b → B.1 b k = A.1 b k) : SHS x M B := by
  intro s hs
  rw [he 16 s (by omega), he 17 s (by omega), he 18 s (by omega)]
  have q := h s hs
  refine ⟨q.1, fun z => ⟨(q.2 z).1, fun j hj => ?_⟩⟩
  rw [he (20 + s) j (by omega)]
  exact (q.2 z).2 j hj
theorem TPS_eq (h : TPS x M A) (he : ∀ b k, b = 11 ∨ b = 12 → B.1 b k = A.1 b k) : TPS x M B := by
  unfold TPS at *
  rw [he 12 0 (by omega)]
  refine ⟨h.1, fun i hi => ?_⟩
  rw [he 11 i (by omega)]
  exact h.2 i hi
theorem IMS_eq (h : IMS x P M A) (he : ∀ b k, 13 ≤ b ∧ b ≤ 15 → B.1 b k = A.1 b k) : IMS x P M B := by
  unfold IMS at *
  rw [he 15 0 (by omega), he 15 1 (by omega), he 15 2 (by omega)]
  refine ⟨h.1, fun z => ?_⟩
  obtain ⟨q1, q2, q3, q4⟩ := h.2 z
  refine ⟨fun p hp => ?_, q2, q3, fun q hq => ?_⟩
  · rw [he 13 p (by omega), he 13 _ (by omega), he 13 _ (by omega), he 13 _ (by omega)]
    exact q1 p hp
  · rw [he 14 q (by omega), he 14 _ (by omega)]
    exact q4 q hq
theorem cABS_img (h : cABS x n S P M A) (h6 : i2n (A.1 10 0) ≤ 6) (hk : ∀ b k, x ≤ b → ¬ (x + 75 ≤ b ∧ b < x + 94) → ¬ (x + 46 ≤ b ∧ b < x + 49) → b ≠ x + 6 → b ≠ x + 7 → ¬ (b = x ∧ k = 11) → M' b k = M b k)
    (hP : ∀ b k, ¬ (b = x + 46 ∧ k = 3) → P' b k = P b k) (he : ∀ b k, ¬ (13 ≤ b ∧ b ≤ 15) → B.1 b k = A.1 b k) (h2 : B.2 = A.2) (hi : IMS x P' M' B) : cABS x n S P' M' B := by
  obtain ⟨a1, a2, a3, a4, a5, a6, -, hu⟩ := h
  refine ⟨CTA_eq (a1.keep (fun k => ⟨hk _ _ (by omega) (by omega) (by omega) (by omega) (by omega) (by omega), hk _ _ (by omega) (by omega) (by omega) (by omega) (by omega) (by omega), hk _ _ (by omega) (by omega) (by omega) (by omega) (by omega) (by omega)⟩) (hP _ _ (by omega))) (fun b k z => he _ _ (by omega)),
    (hk _ _ (by omega) (by omega) (by omega) (by omega) (by omega) (by omega)).trans (a2.trans (he 10 0 (by omega)).symm),
    TXS_eq (a3.keep (fun b k z1 z2 => hk _ _ (by omega) (by omega) (by omega) (by omega) (by omega) (by omega)) h6) (he 10 0 (by omega)) h2,
    STS_eq (a4.keep (hk _ _ (by omega) (by omega) (by omega) (by omega) (by omega) (by omega)) (fun b k z => hk _ _ (by omega) (by omega) (by omega) (by omega) (by omega) (by omega)) (fun k => hP _ _ (by omega))) (fun b k z => he _ _ (by omega)),
    SHS_eq (a5.keep (fun b k z1 z2 => hk _ _ (by omega) (by omega) (by omega) (by omega) (by omega) (by omega))) (fun b k z => he _ _ (by omega)),
    TPS_eq (a6.keep (hk _ _ (by omega) (by omega) (by omega) (by omega) (by omega) (by omega)) (fun k => hk _ _ (by omega) (by omega) (by omega) (by omega) (by omega) (by omega))) (fun b k z => he _ _ (by omega)), hi, hu⟩
theorem CWF.k3 (h : CWF x S P) (hP : ∀ b k, x ≤ b → b < x + 75 → ¬ (x + 40 ≤ b ∧ b < x + 67 ∧ k = 3) → b ≠ x + 4 → P' b k = P b k) : CWF x S P' := by
  obtain ⟨a1, a2, a3, a4, a5⟩ := h
  refine ⟨a1, fun q hq => ?_, fun i hi => ?_, fun j hj => ?_, fun s hs => ?_⟩
  · rw [← a2 q hq]
    have hb : q.1 < 10 ∧ ¬ (q.1 = 4) := by
      have : ∀ q ∈ CRf, q.1 < 10 ∧ ¬ (q.1 = 4) := by decide
      exact this q hq
    exact hP _ _ (by omega) (by omega) (by omega) (by omega)
  · rw [hP _ 1 (by omega) (by omega) (by omega) (by omega), hP _ 2 (by omega) (by omega) (by omega) (by omega), hP _ 3 (by omega) (by omega) (by omega) (by omega), hP _ 4 (by omega) (by omega) (by omega) (by omega)]
    exact a3 i hi
  · rw [hP _ 0 (by omega) (by omega) (by omega) (by omega), hP _ 1 (by omega) (by omega) (by omega) (by omega)]
    exact a4 j hj
  · rw [hP _ 0 (by omega) (by omega) (by omega) (by omega)]
    exact a5 s hs
theorem zImg_o {b k : Nat} (h : ¬ (13 ≤ b ∧ b ≤ 15)) : (zImg A).1 b k = A.1 b k := by
  unfold zImg
  iterate 23 rw [zUp_n (by omega)]
theorem zImg_2 : (zImg A).2 = A.2 := rfl
theorem IMS_zImg {cn : Nat} (hc : A.1 8 0 = nI cn) (h6 : cn ≤ 6) (h11 : M x 11 = nI cn) (h : CTA x (x + 46) P M A) (hq : ∀ q, q < cn → M (x + 6) q = A.1 6 q ∧ M (x + 7) q = A.1 7 q) : IMS x P M (zImg A) := by
  have e0 : (zImg A).1 15 0 = A.1 8 0 := rfl
  refine ⟨h11.trans (hc.symm.trans e0.symm), fun _ => ⟨fun p hp => ?_, h.w, h.2.2.2, fun q hq' => ?_⟩⟩
  · have := h.2.1 p hp
    rw [show x + 47 + p = x + 46 + 1 + p by omega]
    rcases (by omega : p = 0 ∨ p = 1) with rfl | rfl
    · exact this
    · exact this
  · rw [e0, hc, show i2n (nI cn) = cn from nI_clamp (by omega)] at hq'
    have := hq q hq'
    rcases (by omega : q = 0 ∨ q = 1 ∨ q = 2 ∨ q = 3 ∨ q = 4 ∨ q = 5) with rfl | rfl | rfl | rfl | rfl | rfl
    all_goals exact this
set_option maxHeartbeats 4000000 in
set_option maxRecDepth 100000 in
theorem kc_image (hA : cABS x n S P M A) (hg2 : RNG2 A) (hC : CWF x S P) (hX : HSC x sc) : KK G sc yX11_image cX11_image 3 (some .int) 3 0 0 [.ref x] (n, S, M, L, P) (cI x n S M P (.int (A.1 8 0)) (zImg A)) := by
  have hg : RNG A := hg2.1
  have hrl := (rul_lt hg).1
  obtain ⟨cn, hc6, hcA, hcZ⟩ := cnt_e hg
  have h6 := (rul_lt hg).2
  have hct := hA.1
  have hrt := hct.rt hg hA.2.2.1
  have hst := hA.2.2.2.1
  have hC2 : CRT0 x (x + 46) := ⟨2, by decide, by omega⟩
  refine KK_of2 [(0, .ref x)] (by decide +kernel) (Nat.le_of_ble_eq_true rfl) rfl ?_
  refine JJ_aload_n dX11_image_0 rfl rfl ?_
  refine JJ_getr (q := x + 46) (cis := [11]) (k := 8) fa_X11_104 (by decide) (congrArg Prod.fst (hC.sh (t := 0) (k := 12) (m := 0) (by decide))) rfl (hC.rf (t := 0) (s := 8) (u := 46) (by decide)) dX11_image_1 ?_
  refine JJ_aload_n dX11_image_4 rfl rfl ?_
  refine JJ_getr (q := x + 40) (cis := [11]) (k := 5) fa_X11_97 (by decide) (congrArg Prod.fst (hC.sh (t := 0) (k := 12) (m := 0) (by decide))) rfl (hC.rf (t := 0) (s := 5) (u := 40) (by decide)) dX11_image_5 ?_
  refine JJ_callV (rest := []) (congrArg Prod.fst (hC.2.2.2.1 2 (by decide)).1) rfl rfl (kc_take (c := x + 46) (e := x + 40) (by omega) hC2 hct.1 hct.2.2.2 hC hX) (by omega) mi_X1_take lk_X11_245 rfl (Nat.le_of_ble_eq_true rfl) rfl rfl dX11_image_8 ?_
  intro v1 μ2 h3
  obtain ⟨rfl, Ma, Pa, rfl, htk1, htk2, htk3, htk4⟩ := h3
  refine JJ_r0 ?_
  have hPa : ∀ b k, ¬ (b = x + 46 ∧ k = 3) → Pa b k = P b k := fun b k z => rd_n htk4 z rfl
  have hMa : ∀ b k, ¬ (x + 46 ≤ b ∧ b < x + 49) → Ma b k = M b k := fun b k z => htk3 b k (by omega)
  have hctA : CTA x (x + 46) Pa Ma A := CTA_take hct hC2 htk1 htk2 htk4
  have hCa : CWF x S Pa := hC.k3 (fun b k _ _ z _ => hPa b k (by omega))
  refine JJ_iconst (v := 0) dX11_image_11 rfl ?_
  refine JJ_istore_n (lv' := [(1, .int 0), (0, .ref x)]) dX11_image_12 rfl (by decide) rfl ?_
  have key : ∀ (d j : Nat) (Mx : Nat → Nat → Int32), j + d = cn → (∀ i, i < j → Mx (x + 6) i = A.1 6 i ∧ Mx (x + 7) i = A.1 7 i) → (∀ b k, b ≠ x + 6 → b ≠ x + 7 → Mx b k = Ma b k) → JJ G sc yX11_image cX11_image 3 (some .int) 3 0 0 (cI x n S M P (.int (A.1 8 0)) (zImg A)) 13 [(1, .int (nI j)), (0, .ref x)] [] (n, S, Mx, L, Pa) := by
    intro d
    induction d with
    | zero =>
      intro j Mx hjd h1 hf
      have hx4 : Mx x 4 = nI cn := (hf _ _ (by omega) (by omega)).trans ((hMa _ _ (by omega)).trans (hst.1.trans hcA))
      refine JJ_iload_n dX11_image_13 rfl rfl ?_
      refine JJ_aload_n dX11_image_14 rfl rfl ?_
      refine JJ_geti (v := nI cn) (cis := [11]) (k := 4) fa_X11_32 (by decide) (congrArg Prod.fst (hC.sh (t := 0) (k := 12) (m := 0) (by decide))) rfl (hX.1 _ _ (by omega) (by omega) (by omega)) hx4 dX11_image_15 ?_
      refine JJ_icmp_ge (tgt := 57) dX11_image_18 (by decide) (fun _ => ?_) (fun c4 => absurd (nI_le (by omega) (by omega)) c4)
      refine JJ_aload_n dX11_image_57 rfl rfl ?_
      refine JJ_aload_n dX11_image_58 rfl rfl ?_
      refine JJ_geti (v := nI cn) (cis := [11]) (k := 4) fa_X11_32 (by decide) (congrArg Prod.fst (hC.sh (t := 0) (k := 12) (m := 0) (by decide))) rfl (hX.1 _ _ (by omega) (by omega) (by omega)) hx4 dX11_image_59 ?_
      refine JJ_puti (cis := [11]) (k := 11) fa_X11_48 (by decide) (congrArg Prod.fst (hC.sh (t := 0) (k := 12) (m := 0) (by decide))) rfl (fun r hr => by cases hr; exact ⟨rfl, by decide +kernel⟩) dX11_image_62 (fun M5 hM6 => ?_)
      refine JJ_aload_n dX11_image_65 rfl rfl ?_
      refine JJ_geti (v := nI cn) (cis := [11]) (k := 4) fa_X11_32 (by decide) (congrArg Prod.fst (hC.sh (t := 0) (k := 12) (m := 0) (by decide))) rfl (hX.1 _ _ (by omega) (by omega) (by omega)) (rd_n hM6 (by omega) hx4) dX11_image_66 ?_
      refine JJ_iret dX11_image_69 rfl ?_
      have hfr : ∀ b k, ¬ (b = x ∧ k = 11) → b ≠ x + 6 → b ≠ x + 7 → ¬ (x + 46 ≤ b ∧ b < x + 49) → M5 b k = M b k := fun b k z1 z2 z3 z4 => rd_n hM6 z1 ((hf b k z2 z3).trans (hMa b k z4))
      have hctB : CTA x (x + 46) Pa M5 A := hctA.keep (fun k => ⟨rd_n hM6 (by omega) (hf _ _ (by omega) (by omega)), rd_n hM6 (by omega) (hf _ _ (by omega) (by omega)), rd_n hM6 (by omega) (hf _ _ (by omega) (by omega))⟩) rfl
      have him : IMS x Pa M5 (zImg A) := IMS_zImg hcA hc6 (rd_s hM6) hctB (fun q hq => ⟨rd_n hM6 (by omega) (h1 q (by omega)).1, rd_n hM6 (by omega) (h1 q (by omega)).2⟩)
      refine ⟨by rw [hcA], n, S, M5, L, Pa, rfl, Nat.le_refl _, fun _ _ => rfl, hCa, cABS_img hA h6 (fun b k _ _ z1 z2 z3 z4 => hfr b k z4 z2 z3 z1) hPa (fun b k z => zImg_o z) zImg_2 him, fun b k z => hfr b k (fun e => z (by unfold cF; omega)) (fun e => z (by unfold cF; omega)) (fun e => z (by unfold cF; omega)) (fun e => z (by unfold cF; omega)), fun b k z => hPa b k (fun e => z (by unfold cF; omega))⟩
    | succ d ih =>
      intro j Mx hjd h1 hf
      have hx4 : Mx x 4 = nI cn := (hf _ _ (by omega) (by omega)).trans ((hMa _ _ (by omega)).trans (hst.1.trans hcA))
      have hsx : STS x n S Pa Mx A := hst.keep ((hf _ _ (by omega) (by omega)).trans (hMa _ _ (by omega))) (fun b k z => (hf b k (by omega) (by omega)).trans (hMa b k (by omega))) (fun k => hPa _ _ (by omega))
      have hq : j < zcnt A := by omega
      obtain ⟨a, ha, hax, han, hsk⟩ := hsx.at hq
      obtain ⟨ci, y1, y2, y3, y4, y5⟩ := id hsk
      refine JJ_iload_n dX11_image_13 rfl rfl ?_
      refine JJ_aload_n dX11_image_14 rfl rfl ?_
      refine JJ_geti (v := nI cn) (cis := [11]) (k := 4) fa_X11_32 (by decide) (congrArg Prod.fst (hC.sh (t := 0) (k := 12) (m := 0) (by decide))) rfl (hX.1 _ _ (by omega) (by omega) (by omega)) hx4 dX11_image_15 ?_
      refine JJ_icmp_ge (tgt := 57) dX11_image_18 (by decide) (fun c7 => absurd c7 (nI_ge (by omega) (by omega))) (fun _ => ?_)
      refine JJ_aload_n dX11_image_21 rfl rfl ?_
      refine JJ_iload_n dX11_image_22 rfl rfl ?_
      refine JJ_callV (rest := []) (congrArg Prod.fst (hC.sh (t := 0) (k := 12) (m := 0) (by decide))) rfl rfl (kc_strokeAt hq ha hsx hg hCa hX) (by omega) mi_X11_strokeAt lk_X11_129 rfl (Nat.le_of_ble_eq_true rfl) rfl rfl dX11_image_23 ?_
      intro v8 μ9 h10
      obtain ⟨rfl, rfl⟩ := h10
      refine JJ_r1 ?_
      refine JJ_astore_n (lv' := [(2, .ref a), (1, .int (nI j)), (0, .ref x)]) dX11_image_26 rfl (by decide) rfl ?_
      refine JJ_aload_n dX11_image_27 rfl rfl ?_
      refine JJ_ifnullR dX11_image_28 ?_
      refine JJ_aload_n dX11_image_31 rfl rfl ?_
      refine JJ_getr (q := x + 6) (cis := [11]) (k := 9) fa_X11_41 (by decide) (congrArg Prod.fst (hC.sh (t := 0) (k := 12) (m := 0) (by decide))) rfl (hCa.rf (t := 0) (s := 9) (u := 6) (by decide)) dX11_image_32 ?_
      refine JJ_iload_n dX11_image_35 rfl rfl ?_
      refine JJ_aload_n dX11_image_36 rfl rfl ?_
      refine JJ_geti (v := A.1 6 j) (cis := [0, 2, 3, 4, 5, 8]) (k := 0) fa_X11_256 (by rcases y1 with rfl | rfl | rfl | rfl | rfl | rfl <;> decide) y2 (by rcases y1 with rfl | rfl | rfl | rfl | rfl | rfl <;> rfl) (hX.2.1 _ _ (by omega)) y4 dX11_image_37 ?_
      refine JJ_iastX (hC.sh (t := 6) (k := 20) (m := 6) (by decide)) (IX_nI (by omega) (by omega)) dX11_image_40 (fun M11 hM12 => ?_)
      refine JJ_aload_n dX11_image_41 rfl rfl ?_
      refine JJ_getr (q := x + 7) (cis := [11]) (k := 10) fa_X11_45 (by decide) (congrArg Prod.fst (hC.sh (t := 0) (k := 12) (m := 0) (by decide))) rfl (hCa.rf (t := 0) (s := 10) (u := 7) (by decide)) dX11_image_42 ?_
      refine JJ_iload_n dX11_image_45 rfl rfl ?_
      refine JJ_aload_n dX11_image_46 rfl rfl ?_
      refine JJ_geti (v := A.1 7 j) (cis := [0, 2, 3, 4, 5, 8]) (k := 1) fa_X11_259 (by rcases y1 with rfl | rfl | rfl | rfl | rfl | rfl <;> decide) y2 (by rcases y1 with rfl | rfl | rfl | rfl | rfl | rfl <;> rfl) (hX.2.1 _ _ (by omega)) (rd_n hM12 (by omega) y5) dX11_image_47 ?_
      refine JJ_iastX (hC.sh (t := 7) (k := 20) (m := 6) (by decide)) (IX_nI (by omega) (by omega)) dX11_image_50 (fun M13 hM14 => ?_)
      refine JJ_iinc (v := nI (j + 1)) (lv' := [(1, .int (nI (j + 1))), (2, .ref a), (0, .ref x)]) dX11_image_51 rfl (nI_add (j) 1) (by decide) rfl ?_
      refine JJ_goto (tgt := 13) dX11_image_54 (by decide) ?_
      refine JJ.pick [0, 2] rfl ?_
      refine ih (j + 1) M13 (by omega) (fun i hi => ?_) (fun b k z1 z2 => rd_n hM14 (by omega) (rd_n hM12 (by omega) (hf b k z1 z2)))
      by_cases e : i = j
      · rw [e]; exact ⟨rd_n hM14 (by omega) (rd_s hM12), rd_s hM14⟩
      · exact ⟨rd_n hM14 (by omega) (rd_n hM12 (by omega) (h1 i (by omega)).1), rd_n hM14 (by omega) (rd_n hM12 (by omega) (h1 i (by omega)).2)⟩
  refine JJ.pick [0, 1] rfl ?_
  exact key cn 0 Ma (by omega) (fun i hi => absurd hi (Nat.not_lt_zero _)) (fun _ _ _ _ => rfl)
end C23
