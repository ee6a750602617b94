section C25
variable {G : Gx} {sc : Nat → Nat → Prop} {n : Nat} {S : Nat → Nat × Nat} {M : Nat → Nat → Int32} {L : Nat → Nat → Int64} {P : Nat → Nat → Option Nat} {x : Nat} {A B : Abs}

/-- what is so of every state, and stays so -/
def RNG3 (A : Abs) : Prop := RNG2 A ∧ (∀ q, q < 6 → s_within2 0 9 (A.1 6 q)) ∧ (A.1 15 0 = -1 ∨ ∀ q, q < 6 → s_within2 0 9 (A.1 14 q))
theorem rng3_stroke {kind number aim : Int32} (hg : RNG3 A) : RNG3 (zr_stroke A kind number aim).2 := by
  obtain ⟨⟨g1, g2, g3, g4, g5, g6, g7, g8⟩, k1, k2⟩ := hg
  have hr := rng_stroke (kind := kind) (number := number) (aim := aim) g1
  obtain ⟨c, hc, e, ez⟩ := cnt_e g1
  unfold zr_stroke at hr ⊢
  split
  · exact ⟨⟨g1, g2, g3, g4, g5, g6, g7, g8⟩, k1, k2⟩
  · rename_i h
    rw [if_neg h] at hr
    have h := Classical.not_not.mp h
    split
    · exact ⟨⟨g1, g2, g3, g4, g5, g6, g7, g8⟩, k1, k2⟩
    · rename_i h6
      rw [if_neg h6] at hr
      rw [ez] at h6 hr ⊢
      have eo : ∀ b k, b ≠ 5 → b ≠ 6 → b ≠ 7 → b ≠ 8 → (zUp (zUp (zUp (zUp A 5 c kind) 6 c number) 7 c aim) 8 0 (nI (c + 1))).1 b k = A.1 b k := fun b k z1 z2 z3 z4 => (zUp_n (by omega)).trans ((zUp_n (by omega)).trans ((zUp_n (by omega)).trans (zUp_n (by omega))))
      have ez2 : zcnt (zUp (zUp (zUp (zUp A 5 c kind) 6 c number) 7 c aim) 8 0 (nI (c + 1))) = c + 1 := by
        show i2n _ = _
        rw [zUp_e]
        exact nI_clamp (by omega)
      have e6 : ∀ q, (zUp (zUp (zUp (zUp A 5 c kind) 6 c number) 7 c aim) 8 0 (nI (c + 1))).1 6 q = if q = c then number else A.1 6 q := fun q => by
        rw [zUp_n (by omega), zUp_n (by omega)]
        split
        · rename_i z; rw [z]; exact zUp_e
        · rw [zUp_n (by omega), zUp_n (by omega)]
      have e5 : ∀ q, (zUp (zUp (zUp (zUp A 5 c kind) 6 c number) 7 c aim) 8 0 (nI (c + 1))).1 5 q = if q = c then kind else A.1 5 q := fun q => by
        rw [zUp_n (by omega), zUp_n (by omega), zUp_n (by omega)]
        split
        · rename_i z; rw [z]; exact zUp_e
        · rw [zUp_n (by omega)]
      have k6 : ∀ q, q < 6 → s_within2 0 9 ((zUp (zUp (zUp (zUp A 5 c kind) 6 c number) 7 c aim) 8 0 (nI (c + 1))).1 6 q) := fun q hq => by
        rw [e6]
        split
        · exact h.2.1
        · exact k1 q hq
      refine ⟨⟨hr, fun p hp => ?_, ?_, fun q hq => ⟨?_, ?_⟩, ?_, fun s hs => ?_, ?_, ?_⟩, k6, ?_⟩
      · rw [eo 1 p (by decide) (by decide) (by decide) (by decide)]; exact g2 p hp
      · rw [eo 4 0 (by decide) (by decide) (by decide) (by decide)]; exact g3
      · rw [e5]
        rw [ez2] at hq
        split
        · exact h.1
        · exact (g4 q (by omega)).1
      · rw [ez2] at hq
        exact k6 q (by omega)
      · rw [eo 12 0 (by decide) (by decide) (by decide) (by decide)]; exact g5
      · rw [eo 16 s (by decide) (by decide) (by decide) (by decide), eo 17 s (by decide) (by decide) (by decide) (by decide)]; exact g6 s hs
      · rw [eo 15 0 (by decide) (by decide) (by decide) (by decide), ez2]
        rcases g7 with g7 | ⟨⟨d, d1, d2⟩, d3, d4, d5, d6, d7, d8, d9⟩
        · exact Or.inl g7
        · refine Or.inr ⟨⟨d, by omega, d2⟩, fun p hp => ?_, fun p hp => ?_, fun p hp => ?_, fun q hq => ?_, fun q hq => ?_, ?_, ?_⟩
          · rw [eo 13 _ (by decide) (by decide) (by decide) (by decide)]; exact d3 p hp
          · rw [eo 13 _ (by decide) (by decide) (by decide) (by decide)]; exact d4 p hp
          · rw [eo 13 _ (by decide) (by decide) (by decide) (by decide)]; exact d5 p hp
          · rw [eo 14 _ (by decide) (by decide) (by decide) (by decide)]
            rcases k2 with k2 | k2
            · rw [d2] at k2
              have : (nI d).toInt = (-1 : Int32).toInt := congrArg Int32.toInt k2
              rw [nI_toInt (by omega), show (-1 : Int32).toInt = -1 from rfl] at this
              omega
            · exact k2 q (by omega)
          · rw [eo 14 _ (by decide) (by decide) (by decide) (by decide)]; exact d7 q hq
          · rw [eo 15 1 (by decide) (by decide) (by decide) (by decide)]; exact d8
          · rw [eo 15 2 (by decide) (by decide) (by decide) (by decide), eo 10 0 (by decide) (by decide) (by decide) (by decide)]; exact d9
      · intro i hi
        rw [eo 12 0 (by decide) (by decide) (by decide) (by decide)] at hi
        rw [eo 11 i (by decide) (by decide) (by decide) (by decide)]
        exact g8 i hi
      · rcases k2 with k2 | k2
        · exact Or.inl ((eo 15 0 (by decide) (by decide) (by decide) (by decide)).trans k2)
        · refine Or.inr fun q hq => ?_
          rw [eo 14 q (by decide) (by decide) (by decide) (by decide)]
          exact k2 q hq
theorem zstk_1 {s f k d c : Nat} (h : f + 3 * k + 3 ≤ zN A s) (hr : 0 ≤ (zr_stroke A (A.1 (20 + s) (f + 3 * k)) (A.1 (20 + s) (f + 3 * k + 1)) (A.1 (20 + s) (f + 3 * k + 2))).1) : zstk s f (d + 1) k A c = zstk s f d (k + 1) (zr_stroke A (A.1 (20 + s) (f + 3 * k)) (A.1 (20 + s) (f + 3 * k + 1)) (A.1 (20 + s) (f + 3 * k + 2))).2 (c + 1) :=
  (if_pos h).trans (by rw [if_pos hr])
theorem zstk_0 {s f k d c : Nat} (h : f + 3 * k + 3 ≤ zN A s) (hr : ¬ 0 ≤ (zr_stroke A (A.1 (20 + s) (f + 3 * k)) (A.1 (20 + s) (f + 3 * k + 1)) (A.1 (20 + s) (f + 3 * k + 2))).1) : zstk s f (d + 1) k A c = zstk s f d (k + 1) (zr_stroke A (A.1 (20 + s) (f + 3 * k)) (A.1 (20 + s) (f + 3 * k + 1)) (A.1 (20 + s) (f + 3 * k + 2))).2 c :=
  (if_pos h).trans (by rw [if_neg hr]; rfl)
theorem zstk_o {s f k d c : Nat} (h : ¬ f + 3 * k + 3 ≤ zN A s) : zstk s f (d + 1) k A c = (-12, A) := if_neg h
set_option maxHeartbeats 4000000 in
set_option maxRecDepth 100000 in
theorem kc_strokes {s so t nn : Int32} (hn : x + 94 ≤ n) (hA : cABS x n S P M A) (hg3 : RNG3 A) (hC : CWF x S P) (hX : HSC x sc) : KK G sc yX11_strokes cX11_strokes 9 (some .int) 6 6 12 [.ref x, .int s, .int so, .int t, .int nn] (n, S, M, L, P) (cI x n S M P (.int (zr_strokes A s so t nn).1) (zr_strokes A s so t nn).2) := by
  have hg2 := hg3.1
  have hg : RNG A := hg2.1
  have hrl := (rul_lt hg).1
  obtain ⟨cn, hc6, hcA, hcZ⟩ := cnt_e hg
  have h6 := (rul_lt hg).2
  have hct := hA.1
  have hrt := hct.rt hg hA.2.2.1
  have hst := hA.2.2.2.1
  have z0 : (0 : Int32).toInt = 0 := rfl
  have z2 : (2 : Int32).toInt = 2 := rfl
  have z6 : (6 : Int32).toInt = 6 := rfl
  have z3 : (3 : Int32).toInt = 3 := rfl
  by_cases hk1 : isSh s ∧ (0 ≤ so.toInt ∧ so.toInt ≤ 2) ∧ (0 ≤ nn.toInt ∧ nn.toInt ≤ 6)
  · skip
    obtain ⟨hs0, hso, hnn⟩ := hk1
    obtain ⟨u, hu3, rfl⟩ := n_of (m := 3) (by decide) hs0
    have hu : u < 4 := by omega
    have hiu : i2n (nI u) = u := nI_clamp (by omega)
    obtain ⟨m, hm6, rfl⟩ := n_of (m := 6) (by decide) hnn
    have him : i2n (nI m) = m := nI_clamp (by omega)
    by_cases h16 : A.1 16 u = 0
    · skip
      have hmi : M (x + 67 + 2 * u) 1 = -1 := ((hA.2.2.2.2.1 u hu).1).trans (if_pos h16)
      have e0 : zr_strokes A (nI u) so t (nI m) = (-11, A) := (if_neg (fun z => z ⟨hs0, hso, hnn⟩)).trans (if_pos (by rw [hiu]; exact h16))
      rw [e0]
      refine KK_of2 [(0, .ref x), (1, .int (nI u)), (2, .int so), (3, .int t), (4, .int (nI m))] (by decide +kernel) (Nat.le_of_ble_eq_true rfl) rfl ?_
      refine JJ_aload_n dX11_strokes_0 rfl rfl ?_
      refine JJ_iload_n dX11_strokes_1 rfl rfl ?_
      refine JJ_callV (rest := []) (congrArg Prod.fst (hC.sh (t := 0) (k := 12) (m := 0) (by decide))) rfl rfl (kc_sheetAt hu hC hX) (by omega) mi_X11_sheetAt lk_X11_196 rfl (Nat.le_of_ble_eq_true rfl) rfl rfl dX11_strokes_2 ?_
      intro v1 μ2 h3
      obtain ⟨rfl, rfl⟩ := h3
      refine JJ_r1 ?_
      refine JJ_astore (lv' := [(5, .ref (x + 67 + 2 * u)), (0, .ref x), (1, .int (nI u)), (2, .int so), (3, .int t), (4, .int (nI m))]) dX11_strokes_5 (by decide) rfl ?_
      refine JJ_aload dX11_strokes_7 rfl ?_
      refine JJ_ifnullR dX11_strokes_9 ?_
      refine JJ_iload_n dX11_strokes_12 rfl rfl ?_
      refine JJ_if_lt (tgt := 33) dX11_strokes_13 (by decide) (fun c4 => absurd c4 (fun y => by rw [i_lt] at y; omega)) (fun _ => ?_)
      refine JJ_iload_n dX11_strokes_16 rfl rfl ?_
      refine JJ_iconst (v := 2) dX11_strokes_17 rfl ?_
      refine JJ_icmp_gt (tgt := 33) dX11_strokes_18 (by decide) (fun c5 => absurd c5 (Int32.not_lt.mpr (i_le.mpr (by omega)))) (fun _ => ?_)
      refine JJ_iload dX11_strokes_21 rfl ?_
      refine JJ_if_lt (tgt := 33) dX11_strokes_23 (by decide) (fun c6 => absurd c6 (nI_nn (by omega))) (fun _ => ?_)
      refine JJ_iload dX11_strokes_26 rfl ?_
      refine JJ_bipush (v := 6) dX11_strokes_28 rfl ?_
      refine JJ_icmp_le (tgt := 36) dX11_strokes_30 (by decide) (fun _ => ?_) (fun c7 => absurd (nI_le (b := 6) (by omega) (by omega)) c7)
      refine JJ_aload dX11_strokes_36 rfl ?_
      refine JJ_callV (rest := []) (congrArg Prod.fst (hC.2.2.2.2 u hu).1) rfl rfl (kc_isMissing hu hC hX) (by omega) mi_X7_isMissing lk_X11_221 rfl (Nat.le_of_ble_eq_true rfl) rfl rfl dX11_strokes_38 ?_
      intro v8 μ9 h10
      obtain ⟨rfl, rfl⟩ := h10
      refine JJ_r1 ?_
      refine JJ_eqi (x2 := 1) (b2_t hmi) ?_
      refine JJ_if_eq (tgt := 47) dX11_strokes_41 (by decide) (fun c11 => absurd c11 (by decide)) (fun _ => ?_)
      refine JJ_bipush (v := (-11)) dX11_strokes_44 rfl ?_
      refine JJ_iret dX11_strokes_46 rfl ?_
      exact cI_q rfl hA hC
    · skip
      obtain ⟨⟨N, hN4, eN, hMN, hMI⟩, hsor, hsr⟩ := sh_there hu hg2 hA.2.2.2.2.1 h16
      by_cases h17 : A.1 17 u = so
      · skip
        have hzN : zN A u = N := by show i2n _ = N; rw [eN]; exact nI_clamp (by omega)
        by_cases ht : 0 ≤ t.toInt ∧ t.toInt ≤ 40
        · skip
          obtain ⟨f, hf40, rfl⟩ := n_of (m := 40) (by decide) ht
          have hif : i2n (nI f) = f := nI_clamp (by omega)
          have e0 : zr_strokes A (nI u) so (nI f) (nI m) = zstk u f m 0 A 0 := (if_neg (fun z => z ⟨hs0, hso, hnn⟩)).trans ((if_neg (by rw [hiu]; exact h16)).trans ((if_neg (by rw [hiu]; exact fun z => z h17)).trans ((if_neg (by rw [nI_toInt (by omega)]; omega)).trans (by rw [hiu, hif, him]))))
          rw [e0]
          refine KK_of2 [(0, .ref x), (1, .int (nI u)), (2, .int so), (3, .int (nI f)), (4, .int (nI m))] (by decide +kernel) (Nat.le_of_ble_eq_true rfl) rfl ?_
          refine JJ_aload_n dX11_strokes_0 rfl rfl ?_
          refine JJ_iload_n dX11_strokes_1 rfl rfl ?_
          refine JJ_callV (rest := []) (congrArg Prod.fst (hC.sh (t := 0) (k := 12) (m := 0) (by decide))) rfl rfl (kc_sheetAt hu hC hX) (by omega) mi_X11_sheetAt lk_X11_196 rfl (Nat.le_of_ble_eq_true rfl) rfl rfl dX11_strokes_2 ?_
          intro v12 μ13 h14
          obtain ⟨rfl, rfl⟩ := h14
          refine JJ_r1 ?_
          refine JJ_astore (lv' := [(5, .ref (x + 67 + 2 * u)), (0, .ref x), (1, .int (nI u)), (2, .int so), (3, .int (nI f)), (4, .int (nI m))]) dX11_strokes_5 (by decide) rfl ?_
          refine JJ_aload dX11_strokes_7 rfl ?_
          refine JJ_ifnullR dX11_strokes_9 ?_
          refine JJ_iload_n dX11_strokes_12 rfl rfl ?_
          refine JJ_if_lt (tgt := 33) dX11_strokes_13 (by decide) (fun c15 => absurd c15 (fun y => by rw [i_lt] at y; omega)) (fun _ => ?_)
          refine JJ_iload_n dX11_strokes_16 rfl rfl ?_
          refine JJ_iconst (v := 2) dX11_strokes_17 rfl ?_
          refine JJ_icmp_gt (tgt := 33) dX11_strokes_18 (by decide) (fun c16 => absurd c16 (Int32.not_lt.mpr (i_le.mpr (by omega)))) (fun _ => ?_)
          refine JJ_iload dX11_strokes_21 rfl ?_
          refine JJ_if_lt (tgt := 33) dX11_strokes_23 (by decide) (fun c17 => absurd c17 (nI_nn (by omega))) (fun _ => ?_)
          refine JJ_iload dX11_strokes_26 rfl ?_
          refine JJ_bipush (v := 6) dX11_strokes_28 rfl ?_
          refine JJ_icmp_le (tgt := 36) dX11_strokes_30 (by decide) (fun _ => ?_) (fun c18 => absurd (nI_le (b := 6) (by omega) (by omega)) c18)
          refine JJ_aload dX11_strokes_36 rfl ?_
          refine JJ_callV (rest := []) (congrArg Prod.fst (hC.2.2.2.2 u hu).1) rfl rfl (kc_isMissing hu hC hX) (by omega) mi_X7_isMissing lk_X11_221 rfl (Nat.le_of_ble_eq_true rfl) rfl rfl dX11_strokes_38 ?_
          intro v19 μ20 h21
          obtain ⟨rfl, rfl⟩ := h21
          refine JJ_r1 ?_
          refine JJ_eqi (x2 := 0) (b2_f (by rw [hsor]; exact so_n1 hsr)) ?_
          refine JJ_if_eq (tgt := 47) dX11_strokes_41 (by decide) (fun _ => ?_) (fun c22 => absurd (by decide) c22)
          refine JJ_aload dX11_strokes_47 rfl ?_
          refine JJ_geti (v := A.1 17 u) (cis := [7]) (k := 1) fa_X11_265 (by decide) (congrArg Prod.fst (hC.2.2.2.2 u hu).1) rfl (hX.1 _ _ (by omega) (by omega) (by omega)) hsor dX11_strokes_49 ?_
          refine JJ_iload_n dX11_strokes_52 rfl rfl ?_
          refine JJ_icmp_eq (tgt := 59) dX11_strokes_53 (by decide) (fun _ => ?_) (fun c23 => absurd h17 c23)
          refine JJ_iconst (v := 0) dX11_strokes_59 rfl ?_
          refine JJ_istore (lv' := [(6, .int 0), (5, .ref (x + 67 + 2 * u)), (0, .ref x), (1, .int (nI u)), (2, .int so), (3, .int (nI f)), (4, .int (nI m))]) dX11_strokes_60 (by decide) rfl ?_
          refine JJ_iconst (v := 0) dX11_strokes_62 rfl ?_
          refine JJ_istore (lv' := [(7, .int 0), (6, .int 0), (5, .ref (x + 67 + 2 * u)), (0, .ref x), (1, .int (nI u)), (2, .int so), (3, .int (nI f)), (4, .int (nI m))]) dX11_strokes_63 (by decide) rfl ?_
          have key : ∀ (d k c : Nat) (B : Abs) (nB : Nat) (SB : Nat → Nat × Nat) (MB : Nat → Nat → Int32) (LB : Nat → Nat → Int64) (PB : Nat → Nat → Option Nat), k + d = m → c ≤ k → RNG3 B → ¬ B.1 16 u = 0 → n ≤ nB → (∀ b, b < n → SB b = S b) → CWF x SB PB → cABS x nB SB PB MB B → (∀ b k, ¬ cF x b → MB b k = M b k) → (∀ b k, ¬ cF x b → PB b k = P b k) → JJ G sc yX11_strokes cX11_strokes 9 (some .int) 6 d (2 * d) (cI x n S M P (.int (zstk u f d k B c).1) (zstk u f d k B c).2) 65 [(7, .int (nI k)), (6, .int (nI c)), (0, .ref x), (1, .int (nI u)), (2, .int so), (3, .int (nI f)), (4, .int (nI m)), (5, .ref (x + 67 + 2 * u))] [] (nB, SB, MB, LB, PB) := by
            intro d
            induction d with
            | zero =>
              intro k c B nB SB MB LB PB hkd hck hgB hB16 hnB hSB hCB hAB hMB hPB
              refine JJ_iload dX11_strokes_65 rfl ?_
              refine JJ_iload dX11_strokes_67 rfl ?_
              refine JJ_icmp_ge (tgt := 135) dX11_strokes_69 (by decide) (fun _ => ?_) (fun c24 => absurd (nI_le (by omega) (by omega)) c24)
              refine JJ_iload dX11_strokes_135 rfl ?_
              refine JJ_iret dX11_strokes_137 rfl ?_
              exact ⟨rfl, nB, SB, MB, LB, PB, rfl, hnB, hSB, hCB, hAB, hMB, hPB⟩
            | succ d ih =>
              intro k c B nB SB MB LB PB hkd hck hgB hB16 hnB hSB hCB hAB hMB hPB
              obtain ⟨⟨N2, hN24, eN2, hMN2, hMI2⟩, -, -⟩ := sh_there hu hgB.1 hAB.2.2.2.2.1 hB16
              have hzN2 : zN B u = N2 := by show i2n _ = N2; rw [eN2]; exact nI_clamp (by omega)
              by_cases hin : f + 3 * k + 3 ≤ N2
              · skip
                by_cases hr : 0 ≤ (zr_stroke B (B.1 (20 + u) (f + 3 * k)) (B.1 (20 + u) (f + 3 * k + 1)) (B.1 (20 + u) (f + 3 * k + 2))).1
                · skip
                  rw [zstk_1 (by rw [hzN2]; exact hin) hr]
                  refine JJ_iload dX11_strokes_65 rfl ?_
                  refine JJ_iload dX11_strokes_67 rfl ?_
                  refine JJ_icmp_ge (tgt := 135) dX11_strokes_69 (by decide) (fun c25 => absurd c25 (nI_ge (by omega) (by omega))) (fun _ => ?_)
                  refine JJ_iload_n dX11_strokes_72 rfl rfl ?_
                  refine JJ_iconst (v := 3) dX11_strokes_73 rfl ?_
                  refine JJ_iload dX11_strokes_74 rfl ?_
                  refine JJ_imul dX11_strokes_76 ?_
                  refine JJ_eqi (x2 := nI (3 * k)) (pk_mul (3) (k)) ?_
                  refine JJ_iadd dX11_strokes_77 ?_
                  refine JJ_eqi (x2 := nI (f + 3 * k)) (nI_add (f) (3 * k)) ?_
                  refine JJ_istore (lv' := [(8, .int (nI (f + 3 * k))), (7, .int (nI k)), (6, .int (nI c)), (0, .ref x), (1, .int (nI u)), (2, .int so), (3, .int (nI f)), (4, .int (nI m)), (5, .ref (x + 67 + 2 * u))]) dX11_strokes_78 (by decide) rfl ?_
                  refine JJ_aload dX11_strokes_80 rfl ?_
                  refine JJ_iload dX11_strokes_82 rfl ?_
                  refine JJ_iconst (v := 3) dX11_strokes_84 rfl ?_
                  refine JJ_callV (rest := []) (congrArg Prod.fst (hCB.2.2.2.2 u hu).1) rfl rfl (kc_holds hMN2 hN24 hu hCB hX) (by omega) mi_X7_holds lk_X11_262 rfl (Nat.le_of_ble_eq_true rfl) rfl rfl dX11_strokes_85 ?_
                  intro v26 μ27 h28
                  obtain ⟨rfl, rfl⟩ := h28
                  refine JJ_r1 ?_
                  refine JJ_eqi (x2 := 1) (b2_t (by rw [nI_toInt (by omega), z3]; omega)) ?_
                  refine JJ_if_ne (tgt := 94) dX11_strokes_88 (by decide) (fun _ => ?_) (fun c29 => absurd c29 (by decide))
                  refine JJ_aload_n dX11_strokes_94 rfl rfl ?_
                  refine JJ_aload dX11_strokes_95 rfl ?_
                  refine JJ_iload dX11_strokes_97 rfl ?_
                  refine JJ_callV (rest := [.ref x]) (congrArg Prod.fst (hCB.2.2.2.2 u hu).1) rfl rfl (kc_item (j := f + 3 * k) hMN2 hN24 (by omega) hu hCB hX) (by omega) mi_X7_item lk_X11_277 rfl (Nat.le_of_ble_eq_true rfl) rfl rfl dX11_strokes_99 ?_
                  intro v30 μ31 h32
                  obtain ⟨rfl, rfl⟩ := h32
                  refine JJ_r1 ?_
                  refine JJ_eqi (x2 := B.1 (20 + u) (f + 3 * k)) (hMI2 _ (by omega)) ?_
                  refine JJ_aload dX11_strokes_102 rfl ?_
                  refine JJ_iload dX11_strokes_104 rfl ?_
                  refine JJ_iconst (v := 1) dX11_strokes_106 rfl ?_
                  refine JJ_iadd dX11_strokes_107 ?_
                  refine JJ_eqi (x2 := nI (f + 3 * k + 1)) (nI_add (f + 3 * k) (1)) ?_
                  refine JJ_callV (rest := [.int (B.1 (20 + u) (f + 3 * k)), .ref x]) (congrArg Prod.fst (hCB.2.2.2.2 u hu).1) rfl rfl (kc_item (j := f + 3 * k + 1) hMN2 hN24 (by omega) hu hCB hX) (by omega) mi_X7_item lk_X11_277 rfl (Nat.le_of_ble_eq_true rfl) rfl rfl dX11_strokes_108 ?_
                  intro v33 μ34 h35
                  obtain ⟨rfl, rfl⟩ := h35
                  refine JJ_r1 ?_
                  refine JJ_eqi (x2 := B.1 (20 + u) (f + 3 * k + 1)) (hMI2 _ (by omega)) ?_
                  refine JJ_aload dX11_strokes_111 rfl ?_
                  refine JJ_iload dX11_strokes_113 rfl ?_
                  refine JJ_iconst (v := 2) dX11_strokes_115 rfl ?_
                  refine JJ_iadd dX11_strokes_116 ?_
                  refine JJ_eqi (x2 := nI (f + 3 * k + 2)) (nI_add (f + 3 * k) (2)) ?_
                  refine JJ_callV (rest := [.int (B.1 (20 + u) (f + 3 * k + 1)), .int (B.1 (20 + u) (f + 3 * k)), .ref x]) (congrArg Prod.fst (hCB.2.2.2.2 u hu).1) rfl rfl (kc_item (j := f + 3 * k + 2) hMN2 hN24 (by omega) hu hCB hX) (by omega) mi_X7_item lk_X11_277 rfl (Nat.le_of_ble_eq_true rfl) rfl rfl dX11_strokes_117 ?_
                  intro v36 μ37 h38
                  obtain ⟨rfl, rfl⟩ := h38
                  refine JJ_r1 ?_
                  refine JJ_eqi (x2 := B.1 (20 + u) (f + 3 * k + 2)) (hMI2 _ (by omega)) ?_
                  refine JJ_callV (rest := []) (congrArg Prod.fst (hCB.sh (t := 0) (k := 12) (m := 0) (by decide))) rfl rfl (kc_stroke (Nat.le_trans hn hnB) hAB hgB.1 hCB hX) (by omega) mi_X11_stroke lk_X11_280 rfl (Nat.le_of_ble_eq_true rfl) (kc' := d) (ks' := 2 * d) rfl rfl dX11_strokes_120 ?_
                  intro v39 μ40 h41
                  obtain ⟨rfl, n2, S2, M2, L2, P2, rfl, s1, s2, s3, s4, s5, s6⟩ := h41
                  refine JJ_r1 ?_
                  refine JJ_if_lt (tgt := 129) dX11_strokes_123 (by decide) (fun c42 => absurd c42 (Int32.not_lt.mpr hr)) (fun _ => ?_)
                  refine JJ_iinc (v := nI (c + 1)) (lv' := [(6, .int (nI (c + 1))), (8, .int (nI (f + 3 * k))), (7, .int (nI k)), (0, .ref x), (1, .int (nI u)), (2, .int so), (3, .int (nI f)), (4, .int (nI m)), (5, .ref (x + 67 + 2 * u))]) dX11_strokes_126 rfl (nI_add (c) 1) (by decide) rfl ?_
                  refine JJ_iinc (v := nI (k + 1)) (lv' := [(7, .int (nI (k + 1))), (6, .int (nI (c + 1))), (8, .int (nI (f + 3 * k))), (0, .ref x), (1, .int (nI u)), (2, .int so), (3, .int (nI f)), (4, .int (nI m)), (5, .ref (x + 67 + 2 * u))]) dX11_strokes_129 rfl (nI_add (k) 1) (by decide) rfl ?_
                  refine JJ_goto (tgt := 65) dX11_strokes_132 (by decide) ?_
                  refine JJ.pick [0, 1, 3, 4, 5, 6, 7, 8] rfl ?_
                  exact ih (k + 1) (c + 1) _ n2 S2 M2 L2 P2 (by omega) (by omega) (rng3_stroke hgB) (by rw [stroke_o (by omega)]; exact hB16) (Nat.le_trans hnB s1) (fun b z => (s2 b (by omega)).trans (hSB b z)) s3 s4 (fun b k z => (s5 b k z).trans (hMB b k z)) (fun b k z => (s6 b k z).trans (hPB b k z))
                · skip
                  rw [zstk_0 (by rw [hzN2]; exact hin) hr]
                  refine JJ_iload dX11_strokes_65 rfl ?_
                  refine JJ_iload dX11_strokes_67 rfl ?_
                  refine JJ_icmp_ge (tgt := 135) dX11_strokes_69 (by decide) (fun c43 => absurd c43 (nI_ge (by omega) (by omega))) (fun _ => ?_)
                  refine JJ_iload_n dX11_strokes_72 rfl rfl ?_
                  refine JJ_iconst (v := 3) dX11_strokes_73 rfl ?_
                  refine JJ_iload dX11_strokes_74 rfl ?_
                  refine JJ_imul dX11_strokes_76 ?_
                  refine JJ_eqi (x2 := nI (3 * k)) (pk_mul (3) (k)) ?_
                  refine JJ_iadd dX11_strokes_77 ?_
                  refine JJ_eqi (x2 := nI (f + 3 * k)) (nI_add (f) (3 * k)) ?_
                  refine JJ_istore (lv' := [(8, .int (nI (f + 3 * k))), (7, .int (nI k)), (6, .int (nI c)), (0, .ref x), (1, .int (nI u)), (2, .int so), (3, .int (nI f)), (4, .int (nI m)), (5, .ref (x + 67 + 2 * u))]) dX11_strokes_78 (by decide) rfl ?_
                  refine JJ_aload dX11_strokes_80 rfl ?_
                  refine JJ_iload dX11_strokes_82 rfl ?_
                  refine JJ_iconst (v := 3) dX11_strokes_84 rfl ?_
                  refine JJ_callV (rest := []) (congrArg Prod.fst (hCB.2.2.2.2 u hu).1) rfl rfl (kc_holds hMN2 hN24 hu hCB hX) (by omega) mi_X7_holds lk_X11_262 rfl (Nat.le_of_ble_eq_true rfl) rfl rfl dX11_strokes_85 ?_
                  intro v44 μ45 h46
                  obtain ⟨rfl, rfl⟩ := h46
                  refine JJ_r1 ?_
                  refine JJ_eqi (x2 := 1) (b2_t (by rw [nI_toInt (by omega), z3]; omega)) ?_
                  refine JJ_if_ne (tgt := 94) dX11_strokes_88 (by decide) (fun _ => ?_) (fun c47 => absurd c47 (by decide))
                  refine JJ_aload_n dX11_strokes_94 rfl rfl ?_
                  refine JJ_aload dX11_strokes_95 rfl ?_
                  refine JJ_iload dX11_strokes_97 rfl ?_
                  refine JJ_callV (rest := [.ref x]) (congrArg Prod.fst (hCB.2.2.2.2 u hu).1) rfl rfl (kc_item (j := f + 3 * k) hMN2 hN24 (by omega) hu hCB hX) (by omega) mi_X7_item lk_X11_277 rfl (Nat.le_of_ble_eq_true rfl) rfl rfl dX11_strokes_99 ?_
                  intro v48 μ49 h50
                  obtain ⟨rfl, rfl⟩ := h50
                  refine JJ_r1 ?_
                  refine JJ_eqi (x2 := B.1 (20 + u) (f + 3 * k)) (hMI2 _ (by omega)) ?_
                  refine JJ_aload dX11_strokes_102 rfl ?_
                  refine JJ_iload dX11_strokes_104 rfl ?_
                  refine JJ_iconst (v := 1) dX11_strokes_106 rfl ?_
                  refine JJ_iadd dX11_strokes_107 ?_
                  refine JJ_eqi (x2 := nI (f + 3 * k + 1)) (nI_add (f + 3 * k) (1)) ?_
                  refine JJ_callV (rest := [.int (B.1 (20 + u) (f + 3 * k)), .ref x]) (congrArg Prod.fst (hCB.2.2.2.2 u hu).1) rfl rfl (kc_item (j := f + 3 * k + 1) hMN2 hN24 (by omega) hu hCB hX) (by omega) mi_X7_item lk_X11_277 rfl (Nat.le_of_ble_eq_true rfl) rfl rfl dX11_strokes_108 ?_
                  intro v51 μ52 h53
                  obtain ⟨rfl, rfl⟩ := h53
                  refine JJ_r1 ?_
                  refine JJ_eqi (x2 := B.1 (20 + u) (f + 3 * k + 1)) (hMI2 _ (by omega)) ?_
                  refine JJ_aload dX11_strokes_111 rfl ?_
                  refine JJ_iload dX11_strokes_113 rfl ?_
                  refine JJ_iconst (v := 2) dX11_strokes_115 rfl ?_
                  refine JJ_iadd dX11_strokes_116 ?_
                  refine JJ_eqi (x2 := nI (f + 3 * k + 2)) (nI_add (f + 3 * k) (2)) ?_
                  refine JJ_callV (rest := [.int (B.1 (20 + u) (f + 3 * k + 1)), .int (B.1 (20 + u) (f + 3 * k)), .ref x]) (congrArg Prod.fst (hCB.2.2.2.2 u hu).1) rfl rfl (kc_item (j := f + 3 * k + 2) hMN2 hN24 (by omega) hu hCB hX) (by omega) mi_X7_item lk_X11_277 rfl (Nat.le_of_ble_eq_true rfl) rfl rfl dX11_strokes_117 ?_
                  intro v54 μ55 h56
                  obtain ⟨rfl, rfl⟩ := h56
                  refine JJ_r1 ?_
                  refine JJ_eqi (x2 := B.1 (20 + u) (f + 3 * k + 2)) (hMI2 _ (by omega)) ?_
                  refine JJ_callV (rest := []) (congrArg Prod.fst (hCB.sh (t := 0) (k := 12) (m := 0) (by decide))) rfl rfl (kc_stroke (Nat.le_trans hn hnB) hAB hgB.1 hCB hX) (by omega) mi_X11_stroke lk_X11_280 rfl (Nat.le_of_ble_eq_true rfl) (kc' := d) (ks' := 2 * d) rfl rfl dX11_strokes_120 ?_
                  intro v57 μ58 h59
                  obtain ⟨rfl, n2, S2, M2, L2, P2, rfl, s1, s2, s3, s4, s5, s6⟩ := h59
                  refine JJ_r1 ?_
                  refine JJ_if_lt (tgt := 129) dX11_strokes_123 (by decide) (fun _ => ?_) (fun c60 => absurd (Int32.not_le.mp hr) c60)
                  refine JJ_iinc (v := nI (k + 1)) (lv' := [(7, .int (nI (k + 1))), (8, .int (nI (f + 3 * k))), (6, .int (nI c)), (0, .ref x), (1, .int (nI u)), (2, .int so), (3, .int (nI f)), (4, .int (nI m)), (5, .ref (x + 67 + 2 * u))]) dX11_strokes_129 rfl (nI_add (k) 1) (by decide) rfl ?_
                  refine JJ_goto (tgt := 65) dX11_strokes_132 (by decide) ?_
                  refine JJ.pick [0, 2, 3, 4, 5, 6, 7, 8] rfl ?_
                  exact ih (k + 1) c _ n2 S2 M2 L2 P2 (by omega) (by omega) (rng3_stroke hgB) (by rw [stroke_o (by omega)]; exact hB16) (Nat.le_trans hnB s1) (fun b z => (s2 b (by omega)).trans (hSB b z)) s3 s4 (fun b k z => (s5 b k z).trans (hMB b k z)) (fun b k z => (s6 b k z).trans (hPB b k z))
              · skip
                rw [zstk_o (by rw [hzN2]; exact hin)]
                refine JJ_iload dX11_strokes_65 rfl ?_
                refine JJ_iload dX11_strokes_67 rfl ?_
                refine JJ_icmp_ge (tgt := 135) dX11_strokes_69 (by decide) (fun c61 => absurd c61 (nI_ge (by omega) (by omega))) (fun _ => ?_)
                refine JJ_iload_n dX11_strokes_72 rfl rfl ?_
                refine JJ_iconst (v := 3) dX11_strokes_73 rfl ?_
                refine JJ_iload dX11_strokes_74 rfl ?_
                refine JJ_imul dX11_strokes_76 ?_
                refine JJ_eqi (x2 := nI (3 * k)) (pk_mul (3) (k)) ?_
                refine JJ_iadd dX11_strokes_77 ?_
                refine JJ_eqi (x2 := nI (f + 3 * k)) (nI_add (f) (3 * k)) ?_
                refine JJ_istore (lv' := [(8, .int (nI (f + 3 * k))), (7, .int (nI k)), (6, .int (nI c)), (0, .ref x), (1, .int (nI u)), (2, .int so), (3, .int (nI f)), (4, .int (nI m)), (5, .ref (x + 67 + 2 * u))]) dX11_strokes_78 (by decide) rfl ?_
                refine JJ_aload dX11_strokes_80 rfl ?_
                refine JJ_iload dX11_strokes_82 rfl ?_
                refine JJ_iconst (v := 3) dX11_strokes_84 rfl ?_
                refine JJ_callV (rest := []) (congrArg Prod.fst (hCB.2.2.2.2 u hu).1) rfl rfl (kc_holds hMN2 hN24 hu hCB hX) (by omega) mi_X7_holds lk_X11_262 rfl (Nat.le_of_ble_eq_true rfl) rfl rfl dX11_strokes_85 ?_
                intro v62 μ63 h64
                obtain ⟨rfl, rfl⟩ := h64
                refine JJ_r1 ?_
                refine JJ_eqi (x2 := 0) (b2_f (by rw [nI_toInt (by omega), z3]; omega)) ?_
                refine JJ_if_ne (tgt := 94) dX11_strokes_88 (by decide) (fun c65 => absurd (by decide) c65) (fun _ => ?_)
                refine JJ_bipush (v := (-12)) dX11_strokes_91 rfl ?_
                refine JJ_iret dX11_strokes_93 rfl ?_
                exact ⟨rfl, nB, SB, MB, LB, PB, rfl, hnB, hSB, hCB, hAB, hMB, hPB⟩
          refine JJ.pick [0, 1, 3, 4, 5, 6, 7, 2] rfl ?_
          refine JJ.fewer (kc' := m) (ks' := 2 * m) (by omega) (by omega) ?_
          exact key m 0 0 A n S M L P (by omega) (Nat.le_refl _) hg3 h16 (Nat.le_refl _) (fun _ _ => rfl) hC hA (fun _ _ _ => rfl) (fun _ _ _ => rfl)
        · skip
          have hff : ¬ i2n t + 3 * 0 + 3 ≤ zN A u ∨ t.toInt < 0 := by
            by_cases z : t.toInt < 0
            · exact Or.inr z
            · exact Or.inl (by rw [hzN, show i2n t = t.toInt.toNat from rfl]; omega)
          by_cases hm0 : m = 0
          · skip
            subst hm0
            have e0 : zr_strokes A (nI u) so t (nI 0) = (0, A) := (if_neg (fun z => z ⟨hs0, hso, hnn⟩)).trans ((if_neg (by rw [hiu]; exact h16)).trans ((if_neg (by rw [hiu]; exact fun z => z h17)).trans (by
              by_cases z : t.toInt < 0
              · exact (if_pos z).trans (if_pos rfl)
              · exact (if_neg z).trans (by rw [him]; rfl))))
            rw [e0]
            refine KK_of2 [(0, .ref x), (1, .int (nI u)), (2, .int so), (3, .int t), (4, .int (nI 0))] (by decide +kernel) (Nat.le_of_ble_eq_true rfl) rfl ?_
            refine JJ_aload_n dX11_strokes_0 rfl rfl ?_
            refine JJ_iload_n dX11_strokes_1 rfl rfl ?_
            refine JJ_callV (rest := []) (congrArg Prod.fst (hC.sh (t := 0) (k := 12) (m := 0) (by decide))) rfl rfl (kc_sheetAt hu hC hX) (by omega) mi_X11_sheetAt lk_X11_196 rfl (Nat.le_of_ble_eq_true rfl) rfl rfl dX11_strokes_2 ?_
            intro v66 μ67 h68
            obtain ⟨rfl, rfl⟩ := h68
            refine JJ_r1 ?_
            refine JJ_astore (lv' := [(5, .ref (x + 67 + 2 * u)), (0, .ref x), (1, .int (nI u)), (2, .int so), (3, .int t), (4, .int (nI 0))]) dX11_strokes_5 (by decide) rfl ?_
            refine JJ_aload dX11_strokes_7 rfl ?_
            refine JJ_ifnullR dX11_strokes_9 ?_
            refine JJ_iload_n dX11_strokes_12 rfl rfl ?_
            refine JJ_if_lt (tgt := 33) dX11_strokes_13 (by decide) (fun c69 => absurd c69 (fun y => by rw [i_lt] at y; omega)) (fun _ => ?_)
            refine JJ_iload_n dX11_strokes_16 rfl rfl ?_
            refine JJ_iconst (v := 2) dX11_strokes_17 rfl ?_
            refine JJ_icmp_gt (tgt := 33) dX11_strokes_18 (by decide) (fun c70 => absurd c70 (Int32.not_lt.mpr (i_le.mpr (by omega)))) (fun _ => ?_)
            refine JJ_iload dX11_strokes_21 rfl ?_
            refine JJ_if_lt (tgt := 33) dX11_strokes_23 (by decide) (fun c71 => absurd c71 (nI_nn (by omega))) (fun _ => ?_)
            refine JJ_iload dX11_strokes_26 rfl ?_
            refine JJ_bipush (v := 6) dX11_strokes_28 rfl ?_
            refine JJ_icmp_le (tgt := 36) dX11_strokes_30 (by decide) (fun _ => ?_) (fun c72 => absurd (nI_le (b := 6) (by omega) (by omega)) c72)
            refine JJ_aload dX11_strokes_36 rfl ?_
            refine JJ_callV (rest := []) (congrArg Prod.fst (hC.2.2.2.2 u hu).1) rfl rfl (kc_isMissing hu hC hX) (by omega) mi_X7_isMissing lk_X11_221 rfl (Nat.le_of_ble_eq_true rfl) rfl rfl dX11_strokes_38 ?_
            intro v73 μ74 h75
            obtain ⟨rfl, rfl⟩ := h75
            refine JJ_r1 ?_
            refine JJ_eqi (x2 := 0) (b2_f (by rw [hsor]; exact so_n1 hsr)) ?_
            refine JJ_if_eq (tgt := 47) dX11_strokes_41 (by decide) (fun _ => ?_) (fun c76 => absurd (by decide) c76)
            refine JJ_aload dX11_strokes_47 rfl ?_
            refine JJ_geti (v := A.1 17 u) (cis := [7]) (k := 1) fa_X11_265 (by decide) (congrArg Prod.fst (hC.2.2.2.2 u hu).1) rfl (hX.1 _ _ (by omega) (by omega) (by omega)) hsor dX11_strokes_49 ?_
            refine JJ_iload_n dX11_strokes_52 rfl rfl ?_
            refine JJ_icmp_eq (tgt := 59) dX11_strokes_53 (by decide) (fun _ => ?_) (fun c77 => absurd h17 c77)
            refine JJ_iconst (v := 0) dX11_strokes_59 rfl ?_
            refine JJ_istore (lv' := [(6, .int 0), (5, .ref (x + 67 + 2 * u)), (0, .ref x), (1, .int (nI u)), (2, .int so), (3, .int t), (4, .int (nI 0))]) dX11_strokes_60 (by decide) rfl ?_
            refine JJ_iconst (v := 0) dX11_strokes_62 rfl ?_
            refine JJ_istore (lv' := [(7, .int 0), (6, .int 0), (5, .ref (x + 67 + 2 * u)), (0, .ref x), (1, .int (nI u)), (2, .int so), (3, .int t), (4, .int (nI 0))]) dX11_strokes_63 (by decide) rfl ?_
            refine JJ_iload dX11_strokes_65 rfl ?_
            refine JJ_iload dX11_strokes_67 rfl ?_
            refine JJ_icmp_ge (tgt := 135) dX11_strokes_69 (by decide) (fun _ => ?_) (fun c78 => absurd (by decide) c78)
            refine JJ_iload dX11_strokes_135 rfl ?_
            refine JJ_iret dX11_strokes_137 rfl ?_
            exact cI_q rfl hA hC
          · skip
            have e0 : zr_strokes A (nI u) so t (nI m) = (-12, A) := (if_neg (fun z => z ⟨hs0, hso, hnn⟩)).trans ((if_neg (by rw [hiu]; exact h16)).trans ((if_neg (by rw [hiu]; exact fun z => z h17)).trans (by
              by_cases z : t.toInt < 0
              · exact (if_pos z).trans (if_neg (nI_ne0 (by omega) (by omega)))
              · refine (if_neg z).trans ?_
                rw [hiu, him]
                obtain ⟨m1, rfl⟩ : ∃ m1, m = m1 + 1 := ⟨m - 1, by omega⟩
                exact zstk_o (hff.resolve_right z))))
            rw [e0]
            refine KK_of2 [(0, .ref x), (1, .int (nI u)), (2, .int so), (3, .int t), (4, .int (nI m))] (by decide +kernel) (Nat.le_of_ble_eq_true rfl) rfl ?_
            refine JJ_aload_n dX11_strokes_0 rfl rfl ?_
            refine JJ_iload_n dX11_strokes_1 rfl rfl ?_
            refine JJ_callV (rest := []) (congrArg Prod.fst (hC.sh (t := 0) (k := 12) (m := 0) (by decide))) rfl rfl (kc_sheetAt hu hC hX) (by omega) mi_X11_sheetAt lk_X11_196 rfl (Nat.le_of_ble_eq_true rfl) rfl rfl dX11_strokes_2 ?_
            intro v79 μ80 h81
            obtain ⟨rfl, rfl⟩ := h81
            refine JJ_r1 ?_
            refine JJ_astore (lv' := [(5, .ref (x + 67 + 2 * u)), (0, .ref x), (1, .int (nI u)), (2, .int so), (3, .int t), (4, .int (nI m))]) dX11_strokes_5 (by decide) rfl ?_
            refine JJ_aload dX11_strokes_7 rfl ?_
            refine JJ_ifnullR dX11_strokes_9 ?_
            refine JJ_iload_n dX11_strokes_12 rfl rfl ?_
            refine JJ_if_lt (tgt := 33) dX11_strokes_13 (by decide) (fun c82 => absurd c82 (fun y => by rw [i_lt] at y; omega)) (fun _ => ?_)
            refine JJ_iload_n dX11_strokes_16 rfl rfl ?_
            refine JJ_iconst (v := 2) dX11_strokes_17 rfl ?_
            refine JJ_icmp_gt (tgt := 33) dX11_strokes_18 (by decide) (fun c83 => absurd c83 (Int32.not_lt.mpr (i_le.mpr (by omega)))) (fun _ => ?_)
            refine JJ_iload dX11_strokes_21 rfl ?_
            refine JJ_if_lt (tgt := 33) dX11_strokes_23 (by decide) (fun c84 => absurd c84 (nI_nn (by omega))) (fun _ => ?_)
            refine JJ_iload dX11_strokes_26 rfl ?_
            refine JJ_bipush (v := 6) dX11_strokes_28 rfl ?_
            refine JJ_icmp_le (tgt := 36) dX11_strokes_30 (by decide) (fun _ => ?_) (fun c85 => absurd (nI_le (b := 6) (by omega) (by omega)) c85)
            refine JJ_aload dX11_strokes_36 rfl ?_
            refine JJ_callV (rest := []) (congrArg Prod.fst (hC.2.2.2.2 u hu).1) rfl rfl (kc_isMissing hu hC hX) (by omega) mi_X7_isMissing lk_X11_221 rfl (Nat.le_of_ble_eq_true rfl) rfl rfl dX11_strokes_38 ?_
            intro v86 μ87 h88
            obtain ⟨rfl, rfl⟩ := h88
            refine JJ_r1 ?_
            refine JJ_eqi (x2 := 0) (b2_f (by rw [hsor]; exact so_n1 hsr)) ?_
            refine JJ_if_eq (tgt := 47) dX11_strokes_41 (by decide) (fun _ => ?_) (fun c89 => absurd (by decide) c89)
            refine JJ_aload dX11_strokes_47 rfl ?_
            refine JJ_geti (v := A.1 17 u) (cis := [7]) (k := 1) fa_X11_265 (by decide) (congrArg Prod.fst (hC.2.2.2.2 u hu).1) rfl (hX.1 _ _ (by omega) (by omega) (by omega)) hsor dX11_strokes_49 ?_
            refine JJ_iload_n dX11_strokes_52 rfl rfl ?_
            refine JJ_icmp_eq (tgt := 59) dX11_strokes_53 (by decide) (fun _ => ?_) (fun c90 => absurd h17 c90)
            refine JJ_iconst (v := 0) dX11_strokes_59 rfl ?_
            refine JJ_istore (lv' := [(6, .int 0), (5, .ref (x + 67 + 2 * u)), (0, .ref x), (1, .int (nI u)), (2, .int so), (3, .int t), (4, .int (nI m))]) dX11_strokes_60 (by decide) rfl ?_
            refine JJ_iconst (v := 0) dX11_strokes_62 rfl ?_
            refine JJ_istore (lv' := [(7, .int 0), (6, .int 0), (5, .ref (x + 67 + 2 * u)), (0, .ref x), (1, .int (nI u)), (2, .int so), (3, .int t), (4, .int (nI m))]) dX11_strokes_63 (by decide) rfl ?_
            refine JJ_iload dX11_strokes_65 rfl ?_
            refine JJ_iload dX11_strokes_67 rfl ?_
            refine JJ_icmp_ge (tgt := 135) dX11_strokes_69 (by decide) (fun c91 => absurd c91 (nI_ge (a := 0) (by omega) (by omega))) (fun _ => ?_)
            refine JJ_iload_n dX11_strokes_72 rfl rfl ?_
            refine JJ_iconst (v := 3) dX11_strokes_73 rfl ?_
            refine JJ_iload dX11_strokes_74 rfl ?_
            refine JJ_imul dX11_strokes_76 ?_
            refine JJ_eqi (x2 := 0) (by decide) ?_
            refine JJ_iadd dX11_strokes_77 ?_
            refine JJ_eqi (x2 := t) (Int32.add_zero t) ?_
            refine JJ_istore (lv' := [(8, .int t), (7, .int 0), (6, .int 0), (5, .ref (x + 67 + 2 * u)), (0, .ref x), (1, .int (nI u)), (2, .int so), (3, .int t), (4, .int (nI m))]) dX11_strokes_78 (by decide) rfl ?_
            refine JJ_aload dX11_strokes_80 rfl ?_
            refine JJ_iload dX11_strokes_82 rfl ?_
            refine JJ_iconst (v := 3) dX11_strokes_84 rfl ?_
            refine JJ_callV (rest := []) (congrArg Prod.fst (hC.2.2.2.2 u hu).1) rfl rfl (kc_holds hMN hN4 hu hC hX) (by omega) mi_X7_holds lk_X11_262 rfl (Nat.le_of_ble_eq_true rfl) rfl rfl dX11_strokes_85 ?_
            intro v92 μ93 h94
            obtain ⟨rfl, rfl⟩ := h94
            refine JJ_r1 ?_
            refine JJ_eqi (x2 := 0) (b2_f (by rw [z3]; omega)) ?_
            refine JJ_if_ne (tgt := 94) dX11_strokes_88 (by decide) (fun c95 => absurd (by decide) c95) (fun _ => ?_)
            refine JJ_bipush (v := (-12)) dX11_strokes_91 rfl ?_
            refine JJ_iret dX11_strokes_93 rfl ?_
            exact cI_q rfl hA hC
      · skip
        have e0 : zr_strokes A (nI u) so t (nI m) = (-13, A) := (if_neg (fun z => z ⟨hs0, hso, hnn⟩)).trans ((if_neg (by rw [hiu]; exact h16)).trans (if_pos (by rw [hiu]; exact h17)))
        rw [e0]
        refine KK_of2 [(0, .ref x), (1, .int (nI u)), (2, .int so), (3, .int t), (4, .int (nI m))] (by decide +kernel) (Nat.le_of_ble_eq_true rfl) rfl ?_
        refine JJ_aload_n dX11_strokes_0 rfl rfl ?_
        refine JJ_iload_n dX11_strokes_1 rfl rfl ?_
        refine JJ_callV (rest := []) (congrArg Prod.fst (hC.sh (t := 0) (k := 12) (m := 0) (by decide))) rfl rfl (kc_sheetAt hu hC hX) (by omega) mi_X11_sheetAt lk_X11_196 rfl (Nat.le_of_ble_eq_true rfl) rfl rfl dX11_strokes_2 ?_
        intro v96 μ97 h98
        obtain ⟨rfl, rfl⟩ := h98
        refine JJ_r1 ?_
        refine JJ_astore (lv' := [(5, .ref (x + 67 + 2 * u)), (0, .ref x), (1, .int (nI u)), (2, .int so), (3, .int t), (4, .int (nI m))]) dX11_strokes_5 (by decide) rfl ?_
        refine JJ_aload dX11_strokes_7 rfl ?_
        refine JJ_ifnullR dX11_strokes_9 ?_
        refine JJ_iload_n dX11_strokes_12 rfl rfl ?_
        refine JJ_if_lt (tgt := 33) dX11_strokes_13 (by decide) (fun c99 => absurd c99 (fun y => by rw [i_lt] at y; omega)) (fun _ => ?_)
        refine JJ_iload_n dX11_strokes_16 rfl rfl ?_
        refine JJ_iconst (v := 2) dX11_strokes_17 rfl ?_
        refine JJ_icmp_gt (tgt := 33) dX11_strokes_18 (by decide) (fun c100 => absurd c100 (Int32.not_lt.mpr (i_le.mpr (by omega)))) (fun _ => ?_)
        refine JJ_iload dX11_strokes_21 rfl ?_
        refine JJ_if_lt (tgt := 33) dX11_strokes_23 (by decide) (fun c101 => absurd c101 (nI_nn (by omega))) (fun _ => ?_)
        refine JJ_iload dX11_strokes_26 rfl ?_
        refine JJ_bipush (v := 6) dX11_strokes_28 rfl ?_
        refine JJ_icmp_le (tgt := 36) dX11_strokes_30 (by decide) (fun _ => ?_) (fun c102 => absurd (nI_le (b := 6) (by omega) (by omega)) c102)
        refine JJ_aload dX11_strokes_36 rfl ?_
        refine JJ_callV (rest := []) (congrArg Prod.fst (hC.2.2.2.2 u hu).1) rfl rfl (kc_isMissing hu hC hX) (by omega) mi_X7_isMissing lk_X11_221 rfl (Nat.le_of_ble_eq_true rfl) rfl rfl dX11_strokes_38 ?_
        intro v103 μ104 h105
        obtain ⟨rfl, rfl⟩ := h105
        refine JJ_r1 ?_
        refine JJ_eqi (x2 := 0) (b2_f (by rw [hsor]; exact so_n1 hsr)) ?_
        refine JJ_if_eq (tgt := 47) dX11_strokes_41 (by decide) (fun _ => ?_) (fun c106 => absurd (by decide) c106)
        refine JJ_aload dX11_strokes_47 rfl ?_
        refine JJ_geti (v := A.1 17 u) (cis := [7]) (k := 1) fa_X11_265 (by decide) (congrArg Prod.fst (hC.2.2.2.2 u hu).1) rfl (hX.1 _ _ (by omega) (by omega) (by omega)) hsor dX11_strokes_49 ?_
        refine JJ_iload_n dX11_strokes_52 rfl rfl ?_
        refine JJ_icmp_eq (tgt := 59) dX11_strokes_53 (by decide) (fun c107 => absurd c107 h17) (fun _ => ?_)
        refine JJ_bipush (v := (-13)) dX11_strokes_56 rfl ?_
        refine JJ_iret dX11_strokes_58 rfl ?_
        exact cI_q rfl hA hC
  · skip
    have e0 : zr_strokes A s so t nn = (-2, A) := if_pos hk1
    rw [e0]
    by_cases hs0 : isSh s
    · skip
      obtain ⟨u, hu3, rfl⟩ := n_of (m := 3) (by decide) hs0
      have hu : u < 4 := by omega
      refine KK_of2 [(0, .ref x), (1, .int (nI u)), (2, .int so), (3, .int t), (4, .int nn)] (by decide +kernel) (Nat.le_of_ble_eq_true rfl) rfl ?_
      refine JJ_aload_n dX11_strokes_0 rfl rfl ?_
      refine JJ_iload_n dX11_strokes_1 rfl rfl ?_
      refine JJ_callV (rest := []) (congrArg Prod.fst (hC.sh (t := 0) (k := 12) (m := 0) (by decide))) rfl rfl (kc_sheetAt hu hC hX) (by omega) mi_X11_sheetAt lk_X11_196 rfl (Nat.le_of_ble_eq_true rfl) rfl rfl dX11_strokes_2 ?_
      intro v108 μ109 h110
      obtain ⟨rfl, rfl⟩ := h110
      refine JJ_r1 ?_
      refine JJ_astore (lv' := [(5, .ref (x + 67 + 2 * u)), (0, .ref x), (1, .int (nI u)), (2, .int so), (3, .int t), (4, .int nn)]) dX11_strokes_5 (by decide) rfl ?_
      refine JJ_aload dX11_strokes_7 rfl ?_
      refine JJ_ifnullR dX11_strokes_9 ?_
      refine JJ_iload_n dX11_strokes_12 rfl rfl ?_
      refine JJ_if_lt (tgt := 33) dX11_strokes_13 (by decide) (fun c111 => ?_) (fun c111 => ?_)
      · skip
        refine JJ_bipush (v := (-2)) dX11_strokes_33 rfl ?_
        refine JJ_iret dX11_strokes_35 rfl ?_
        exact cI_q rfl hA hC
      · skip
        refine JJ_iload_n dX11_strokes_16 rfl rfl ?_
        refine JJ_iconst (v := 2) dX11_strokes_17 rfl ?_
        refine JJ_icmp_gt (tgt := 33) dX11_strokes_18 (by decide) (fun c112 => ?_) (fun c112 => ?_)
        · skip
          refine JJ_bipush (v := (-2)) dX11_strokes_33 rfl ?_
          refine JJ_iret dX11_strokes_35 rfl ?_
          exact cI_q rfl hA hC
        · skip
          refine JJ_iload dX11_strokes_21 rfl ?_
          refine JJ_if_lt (tgt := 33) dX11_strokes_23 (by decide) (fun c113 => ?_) (fun c113 => ?_)
          · skip
            refine JJ_bipush (v := (-2)) dX11_strokes_33 rfl ?_
            refine JJ_iret dX11_strokes_35 rfl ?_
            exact cI_q rfl hA hC
          · skip
            refine JJ_iload dX11_strokes_26 rfl ?_
            refine JJ_bipush (v := 6) dX11_strokes_28 rfl ?_
            refine JJ_icmp_le (tgt := 36) dX11_strokes_30 (by decide) (fun c114 => absurd c114 (fun y => hk1 ⟨hs0, ⟨by have y1 := c111; rw [i_lt] at y1; omega, by have y1 := c112; rw [i_lt] at y1; omega⟩, by have y1 := c113; rw [i_lt] at y1; omega, by rw [i_le] at y; omega⟩)) (fun _ => ?_)
            refine JJ_bipush (v := (-2)) dX11_strokes_33 rfl ?_
            refine JJ_iret dX11_strokes_35 rfl ?_
            exact cI_q rfl hA hC
    · skip
      refine KK_of2 [(0, .ref x), (1, .int s), (2, .int so), (3, .int t), (4, .int nn)] (by decide +kernel) (Nat.le_of_ble_eq_true rfl) rfl ?_
      refine JJ_aload_n dX11_strokes_0 rfl rfl ?_
      refine JJ_iload_n dX11_strokes_1 rfl rfl ?_
      refine JJ_callV (rest := []) (congrArg Prod.fst (hC.sh (t := 0) (k := 12) (m := 0) (by decide))) rfl rfl (kc_sheetNo hs0 hC hX) (by omega) mi_X11_sheetAt lk_X11_196 rfl (Nat.le_of_ble_eq_true rfl) rfl rfl dX11_strokes_2 ?_
      intro v115 μ116 h117
      obtain ⟨rfl, rfl⟩ := h117
      refine JJ_r1 ?_
      refine JJ_astoreN (lv' := [(5, .null), (0, .ref x), (1, .int s), (2, .int so), (3, .int t), (4, .int nn)]) dX11_strokes_5 (by decide) rfl ?_
      refine JJ_aloadN dX11_strokes_7 rfl ?_
      refine JJ_ifnullN (tgt := 33) dX11_strokes_9 (by decide) ?_
      refine JJ_bipush (v := (-2)) dX11_strokes_33 rfl ?_
      refine JJ_iret dX11_strokes_35 rfl ?_
      exact cI_q rfl hA hC
end C25
