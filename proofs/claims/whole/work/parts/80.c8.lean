section C8
variable {G : Gx} {sc : Nat → Nat → Prop} {n : Nat} {S : Nat → Nat × Nat} {M : Nat → Nat → Int32} {L : Nat → Nat → Int64} {P : Nat → Nat → Option Nat} {x : Nat} {A : Abs}

set_option maxHeartbeats 4000000 in
set_option maxRecDepth 100000 in
theorem kc_strokeAt {q a : Nat} (hq : q < zcnt A) (ha : P (x + 4) q = some a) (hst : STS x n S P M A) (hg : RNG A) (hC : CWF x S P) (hX : HSC x sc) : KK G sc yX11_strokeAt cX11_strokeAt 2 (some (.object "MiddleOfCourt$Stroke")) 0 0 0 [.ref x, .int (nI q)] (n, S, M, L, P) (ansR a (n, S, M, L, P)) := by
  obtain ⟨cn, hc6, hcA, hcZ⟩ := cnt_e hg
  refine KK_of2 [(0, .ref x), (1, .int (nI q))] (by decide +kernel) (Nat.le_of_ble_eq_true rfl) rfl ?_
  refine JJ_iload_n dX11_strokeAt_0 rfl rfl ?_
  refine JJ_if_lt (tgt := 21) dX11_strokeAt_1 (by decide) (fun c1 => absurd c1 (nI_nn (by omega))) (fun _ => ?_)
  refine JJ_iload_n dX11_strokeAt_4 rfl rfl ?_
  refine JJ_aload_n dX11_strokeAt_5 rfl rfl ?_
  refine JJ_geti (v := nI cn) (cis := [11]) (k := 4) fa_X11_32 (by decide) (congrArg Prod.fst (hC.sh (t := 0) (k := 12) (m := 0) (by decide))) rfl (hX.1 _ _ (by omega) (by omega) (by omega)) (hst.1.trans hcA) dX11_strokeAt_6 ?_
  refine JJ_icmp_ge (tgt := 21) dX11_strokeAt_9 (by decide) (fun c2 => absurd c2 (nI_ge (by omega) (by omega))) (fun _ => ?_)
  refine JJ_iload_n dX11_strokeAt_12 rfl rfl ?_
  refine JJ_aload_n dX11_strokeAt_13 rfl rfl ?_
  refine JJ_getr (q := x + 4) (cis := [11]) (k := 3) fa_X11_28 (by decide) (congrArg Prod.fst (hC.sh (t := 0) (k := 12) (m := 0) (by decide))) rfl (hC.rf (t := 0) (s := 3) (u := 4) (by decide)) dX11_strokeAt_14 ?_
  refine JJ_alen (t := 3) (hC.sh (t := 4) (k := 23) (m := 6) (by decide)) (by decide) dX11_strokeAt_17 ?_
  refine JJ_icmp_lt (tgt := 25) dX11_strokeAt_18 (by decide) (fun _ => ?_) (fun c3 => absurd (nI_lt1 (by omega) (by omega)) c3)
  refine JJ_aload_n dX11_strokeAt_25 rfl rfl ?_
  refine JJ_getr (q := x + 4) (cis := [11]) (k := 3) fa_X11_28 (by decide) (congrArg Prod.fst (hC.sh (t := 0) (k := 12) (m := 0) (by decide))) rfl (hC.rf (t := 0) (s := 3) (u := 4) (by decide)) dX11_strokeAt_26 ?_
  refine JJ_iload_n dX11_strokeAt_29 rfl rfl ?_
  refine JJ_aaldX (t := 1) (q := a) (hC.sh (t := 4) (k := 23) (m := 6) (by decide)) (by decide) (IX_nI (by omega) (by omega)) ha dX11_strokeAt_30 ?_
  refine JJ_aret dX11_strokeAt_31 rfl (Or.inr ⟨_, rfl⟩) ?_
  exact ⟨rfl, rfl⟩
theorem no_sk {v : Int32} {cn : Nat} (h : ¬ isSk A v) (h0 : ¬ v < 0) (hc : A.1 8 0 = nI cn) (h6 : cn ≤ 6) : nI cn ≤ v := by
  unfold isSk at h
  rw [hc] at h
  rw [i_lt, show (0 : Int32).toInt = 0 from rfl] at h0
  rw [i_le, nI_toInt (by omega)]
  obtain ⟨k, e1, e2, e3⟩ := i_sub (nI cn) 1
  rw [nI_toInt (by omega), show (1 : Int32).toInt = 1 from rfl] at e1
  omega
theorem sk_lt {v : Int32} (hg : RNG A) (h : isSk A v) : ∃ q, q < zcnt A ∧ v = nI q := by
  obtain ⟨q, h1, h2, h3⟩ := sk_of hg h
  exact ⟨q, h2, h3⟩
set_option maxHeartbeats 4000000 in
set_option maxRecDepth 100000 in
theorem kc_strokeNo {v : Int32} (hno : ¬ isSk A v) (hst : STS x n S P M A) (hg : RNG A) (hC : CWF x S P) (hX : HSC x sc) : KK G sc yX11_strokeAt cX11_strokeAt 2 (some (.object "MiddleOfCourt$Stroke")) 0 0 0 [.ref x, .int v] (n, S, M, L, P) (ansN (n, S, M, L, P)) := by
  obtain ⟨cn, hc6, hcA, hcZ⟩ := cnt_e hg
  refine KK_of2 [(0, .ref x), (1, .int v)] (by decide +kernel) (Nat.le_of_ble_eq_true rfl) rfl ?_
  refine JJ_iload_n dX11_strokeAt_0 rfl rfl ?_
  refine JJ_if_lt (tgt := 21) dX11_strokeAt_1 (by decide) (fun c1 => ?_) (fun c1 => ?_)
  · skip
    refine JJ_null dX11_strokeAt_21 ?_
    refine JJ_goto (tgt := 31) dX11_strokeAt_22 (by decide) ?_
    refine JJ_aret dX11_strokeAt_31 rfl (Or.inl rfl) ?_
    exact ⟨rfl, rfl⟩
  · skip
    refine JJ_iload_n dX11_strokeAt_4 rfl rfl ?_
    refine JJ_aload_n dX11_strokeAt_5 rfl rfl ?_
    refine JJ_geti (v := nI cn) (cis := [11]) (k := 4) fa_X11_32 (by decide) (congrArg Prod.fst (hC.sh (t := 0) (k := 12) (m := 0) (by decide))) rfl (hX.1 _ _ (by omega) (by omega) (by omega)) (hst.1.trans hcA) dX11_strokeAt_6 ?_
    refine JJ_icmp_ge (tgt := 21) dX11_strokeAt_9 (by decide) (fun _ => ?_) (fun c2 => absurd (no_sk hno c1 hcA (by omega)) c2)
    refine JJ_null dX11_strokeAt_21 ?_
    refine JJ_goto (tgt := 31) dX11_strokeAt_22 (by decide) ?_
    refine JJ_aret dX11_strokeAt_31 rfl (Or.inl rfl) ?_
    exact ⟨rfl, rfl⟩
theorem CWF.sheet (hC : CWF x S P) {k : Nat} (hk : k < 4) : P (x + 8) k = some (x + 67 + 2 * k) := by
  rcases (by omega : k = 0 ∨ k = 1 ∨ k = 2 ∨ k = 3) with rfl | rfl | rfl | rfl
  · exact hC.rf (t := 8) (s := 0) (u := 67) (by decide)
  · exact hC.rf (t := 8) (s := 1) (u := 69) (by decide)
  · exact hC.rf (t := 8) (s := 2) (u := 71) (by decide)
  · exact hC.rf (t := 8) (s := 3) (u := 73) (by decide)
theorem CWF.txt (hC : CWF x S P) {k : Nat} (hk : k < 6) : P (x + 1) k = some (x + 10 + 5 * k) := by
  rcases (by omega : k = 0 ∨ k = 1 ∨ k = 2 ∨ k = 3 ∨ k = 4 ∨ k = 5) with rfl | rfl | rfl | rfl | rfl | rfl
  · exact hC.rf (t := 1) (s := 0) (u := 10) (by decide)
  · exact hC.rf (t := 1) (s := 1) (u := 15) (by decide)
  · exact hC.rf (t := 1) (s := 2) (u := 20) (by decide)
  · exact hC.rf (t := 1) (s := 3) (u := 25) (by decide)
  · exact hC.rf (t := 1) (s := 4) (u := 30) (by decide)
  · exact hC.rf (t := 1) (s := 5) (u := 35) (by decide)
theorem CWF.ahd (hC : CWF x S P) {k : Nat} (hk : k < 6) : P (x + 5) k = some (x + 49 + 3 * k) := by
  rcases (by omega : k = 0 ∨ k = 1 ∨ k = 2 ∨ k = 3 ∨ k = 4 ∨ k = 5) with rfl | rfl | rfl | rfl | rfl | rfl
  · exact hC.rf (t := 5) (s := 0) (u := 49) (by decide)
  · exact hC.rf (t := 5) (s := 1) (u := 52) (by decide)
  · exact hC.rf (t := 5) (s := 2) (u := 55) (by decide)
  · exact hC.rf (t := 5) (s := 3) (u := 58) (by decide)
  · exact hC.rf (t := 5) (s := 4) (u := 61) (by decide)
  · exact hC.rf (t := 5) (s := 5) (u := 64) (by decide)
theorem no_sh {v : Int32} (h : ¬ isSh v) (h0 : ¬ v < 0) : ¬ v < nI 4 := by
  unfold isSh at h
  rw [i_lt, show (0 : Int32).toInt = 0 from rfl] at h0
  rw [i_lt, nI_toInt (by omega)]
  omega
theorem no_sk6 {v : Int32} (h : nI 6 ≤ v) : True := trivial
set_option maxHeartbeats 4000000 in
set_option maxRecDepth 100000 in
theorem kc_sheetAt {k : Nat} (hk : k < 4) (hC : CWF x S P) (hX : HSC x sc) : KK G sc yX11_sheetAt cX11_sheetAt 2 (some (.object "MiddleOfCourt$Sheet")) 0 0 0 [.ref x, .int (nI k)] (n, S, M, L, P) (ansR (x + 67 + 2 * k) (n, S, M, L, P)) := by
  refine KK_of2 [(0, .ref x), (1, .int (nI k))] (by decide +kernel) (Nat.le_of_ble_eq_true rfl) rfl ?_
  refine JJ_iload_n dX11_sheetAt_0 rfl rfl ?_
  refine JJ_if_lt (tgt := 13) dX11_sheetAt_1 (by decide) (fun c1 => absurd c1 (nI_nn (by omega))) (fun _ => ?_)
  refine JJ_iload_n dX11_sheetAt_4 rfl rfl ?_
  refine JJ_aload_n dX11_sheetAt_5 rfl rfl ?_
  refine JJ_getr (q := x + 8) (cis := [11]) (k := 12) fa_X11_53 (by decide) (congrArg Prod.fst (hC.sh (t := 0) (k := 12) (m := 0) (by decide))) rfl (hC.rf (t := 0) (s := 12) (u := 8) (by decide)) dX11_sheetAt_6 ?_
  refine JJ_alen (t := 5) (hC.sh (t := 8) (k := 25) (m := 4) (by decide)) (by decide) dX11_sheetAt_9 ?_
  refine JJ_icmp_lt (tgt := 17) dX11_sheetAt_10 (by decide) (fun _ => ?_) (fun c2 => absurd (nI_lt1 (by omega) (by omega)) c2)
  refine JJ_aload_n dX11_sheetAt_17 rfl rfl ?_
  refine JJ_getr (q := x + 8) (cis := [11]) (k := 12) fa_X11_53 (by decide) (congrArg Prod.fst (hC.sh (t := 0) (k := 12) (m := 0) (by decide))) rfl (hC.rf (t := 0) (s := 12) (u := 8) (by decide)) dX11_sheetAt_18 ?_
  refine JJ_iload_n dX11_sheetAt_21 rfl rfl ?_
  refine JJ_aaldX (t := 3) (q := x + 67 + 2 * k) (hC.sh (t := 8) (k := 25) (m := 4) (by decide)) (by decide) (IX_nI (by omega) (by omega)) (hC.sheet hk) dX11_sheetAt_22 ?_
  refine JJ_aret dX11_sheetAt_23 rfl (Or.inr ⟨_, rfl⟩) ?_
  exact ⟨rfl, rfl⟩
set_option maxHeartbeats 4000000 in
set_option maxRecDepth 100000 in
theorem kc_sheetNo {v : Int32} (hno : ¬ isSh v) (hC : CWF x S P) (hX : HSC x sc) : KK G sc yX11_sheetAt cX11_sheetAt 2 (some (.object "MiddleOfCourt$Sheet")) 0 0 0 [.ref x, .int v] (n, S, M, L, P) (ansN (n, S, M, L, P)) := by
  refine KK_of2 [(0, .ref x), (1, .int v)] (by decide +kernel) (Nat.le_of_ble_eq_true rfl) rfl ?_
  refine JJ_iload_n dX11_sheetAt_0 rfl rfl ?_
  refine JJ_if_lt (tgt := 13) dX11_sheetAt_1 (by decide) (fun c1 => ?_) (fun c1 => ?_)
  · skip
    refine JJ_null dX11_sheetAt_13 ?_
    refine JJ_goto (tgt := 23) dX11_sheetAt_14 (by decide) ?_
    refine JJ_aret dX11_sheetAt_23 rfl (Or.inl rfl) ?_
    exact ⟨rfl, rfl⟩
  · skip
    refine JJ_iload_n dX11_sheetAt_4 rfl rfl ?_
    refine JJ_aload_n dX11_sheetAt_5 rfl rfl ?_
    refine JJ_getr (q := x + 8) (cis := [11]) (k := 12) fa_X11_53 (by decide) (congrArg Prod.fst (hC.sh (t := 0) (k := 12) (m := 0) (by decide))) rfl (hC.rf (t := 0) (s := 12) (u := 8) (by decide)) dX11_sheetAt_6 ?_
    refine JJ_alen (t := 5) (hC.sh (t := 8) (k := 25) (m := 4) (by decide)) (by decide) dX11_sheetAt_9 ?_
    refine JJ_icmp_lt (tgt := 17) dX11_sheetAt_10 (by decide) (fun c2 => absurd c2 (no_sh hno c1)) (fun _ => ?_)
    refine JJ_null dX11_sheetAt_13 ?_
    refine JJ_goto (tgt := 23) dX11_sheetAt_14 (by decide) ?_
    refine JJ_aret dX11_sheetAt_23 rfl (Or.inl rfl) ?_
    exact ⟨rfl, rfl⟩
end C8
