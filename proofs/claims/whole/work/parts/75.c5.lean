section C5
variable {G : Gx} {sc : Nat → Nat → Prop} {n : Nat} {S : Nat → Nat × Nat} {M : Nat → Nat → Int32} {L : Nat → Nat → Int64} {P : Nat → Nat → Option Nat} {x : Nat}

/-- a court of the class: where it lies, what its rule says -/
def CRT (x c : Nat) (P : Nat → Nat → Option Nat) (M : Nat → Nat → Int32) (E : RuleF) : Prop := (∃ j, j < 9 ∧ c = x + 40 + 3 * j) ∧ ∃ r, r < 6 ∧ P c 3 = some (x + 10 + 5 * r) ∧ TXC (x + 10 + 5 * r) M E
section CT
variable {c : Nat} {E : RuleF}
theorem CRT.at (h : CRT x c P M E) : x + 40 ≤ c ∧ c + 3 ≤ x + 67 := by
  obtain ⟨⟨j, hj, rfl⟩, -⟩ := h
  omega
theorem CRT.sh (h : CRT x c P M E) (hC : CWF x S P) : S c = (2, 0) ∧ S (c + 1) = (7, 0) ∧ S (c + 2) = (7, 0) ∧ P c 0 = some (c + 1) ∧ P c 1 = some (c + 2) := by
  obtain ⟨⟨j, hj, rfl⟩, -⟩ := h
  exact hC.2.2.2.1 j hj
theorem CRT.pl (h : CRT x c P M E) (hC : CWF x S P) {p : Nat} (hp : p < 2) : (S (c + 1 + p)).1 = 7 := by
  obtain ⟨-, h1, h2, -⟩ := h.sh hC
  rcases (by omega : p = 0 ∨ p = 1) with rfl | rfl
  · rw [h1]
  · rw [show c + 1 + 1 = c + 2 from rfl, h2]
theorem CRT.ns (h : CRT x c P M E) (hX : HSC x sc) {i : Nat} (hi : i < 3) (k : Nat) : ¬ sc (c + i) k := hX.1 _ _ (by have := h.at; omega) (by have := h.at; omega) (by have := h.at; omega)
theorem CRT.keep {M' : Nat → Nat → Int32} (h : CRT x c P M E) (hk : ∀ b k, x + 10 ≤ b → b < x + 40 → M' b k = M b k) : CRT x c P M' E := by
  obtain ⟨h1, r, hr, h2, h3⟩ := h
  exact ⟨h1, r, hr, h2, h3.keep (fun k => hk _ _ (by omega) (by omega)) (fun k => hk _ _ (by omega) (by omega))⟩
theorem cG0 {p : Nat} (hp : p < 2) : cG c M p = M (c + 1 + p) 0 := if_pos hp
theorem cG1 {p : Nat} (hp : p < 2) : cG c M (2 + p) = M (c + 1 + p) 1 := by
  unfold cG
  rw [if_neg (by omega), if_pos (by omega), show 2 + p - 2 = p by omega]
theorem cG4 : cG c M 4 = M c 2 := rfl
theorem cQe {p : Nat} (hp : p < 2) : cQ c M p = M (c + 1 + p) 2 := t2_e hp
theorem cHe {p : Nat} (hp : p < 2) : cH c M p = M (c + 1 + p) 3 := t2_e hp
end CT
theorem wi_rng {v m : Int32} (hm : 0 ≤ m.toInt) : 0 ≤ (s_within v 0 m).toInt ∧ (s_within v 0 m).toInt ≤ m.toInt := by
  have e0 : (0 : Int32).toInt = 0 := rfl
  unfold s_within
  simp only [i_le]
  split
  · split
    · rename_i h1 h2; omega
    · omega
  · omega
theorem div2 {v : Int32} (h0 : 0 ≤ v.toInt) (h1 : v.toInt ≤ 99) : 0 ≤ (v / 2).toInt ∧ (v / 2).toInt ≤ 99 := by
  obtain ⟨k, hk, rfl⟩ := n_of (m := 99) (by decide) ⟨h0, h1⟩
  revert k
  decide +kernel
theorem fl_max {kd nb w f : Int32} (hk : kd = 0 ∨ kd = 1 ∨ kd = 2 ∨ kd = 3 ∨ kd = 4 ∨ kd = 5) (h0 : 0 ≤ f.toInt) (h1 : f.toInt ≤ 99) : (if 0 < s_fl kd nb w f then s_fl kd nb w f else 0) = s_flight kd nb w f := by
  have e0 : (0 : Int32).toInt = 0 := rfl
  have hp : ∀ u : Int32, 0 ≤ u.toInt → (if 0 < u then u else 0) = u := by
    intro u hu
    by_cases h : 0 < u
    · rw [if_pos h]
    · rw [if_neg h, i_eq]
      rw [i_lt] at h
      omega
  have hq : ∀ u : Int32, (if 0 < u then u else 0) = (if 0 ≤ u then u else 0) := by
    intro u
    by_cases h : 0 < u
    · rw [if_pos h, if_pos (Int32.le_of_lt h)]
    · rw [if_neg h]
      by_cases h2 : 0 ≤ u
      · rw [if_pos h2]
        exact Int32.le_antisymm h2 (Int32.not_lt.mp h)
      · rw [if_neg h2]
  have hd := div2 h0 h1
  have hw : (if w < 20 then f / 2 else f) = (if 20 ≤ w then f else f / 2) := by
    by_cases h : w < 20
    · rw [if_pos h, if_neg (Int32.not_le.mpr h)]
    · rw [if_neg h, if_pos (Int32.not_lt.mp h)]
  have hr : 0 ≤ (if 20 ≤ w then f else f / 2).toInt ∧ (if 20 ≤ w then f else f / 2).toInt ≤ 99 := by
    split
    · exact ⟨h0, h1⟩
    · exact hd
  rcases hk with rfl | rfl | rfl | rfl | rfl | rfl
  · rw [show s_fl 0 nb w f = f from if_pos rfl, show s_flight 0 nb w f = f from if_pos rfl]
    exact hp f h0
  · rw [show s_fl 1 nb w f = f + nb from rfl, hq]
    rfl
  · rw [show s_fl 2 nb w f = (if w < 20 then f / 2 else f) from rfl, hw, hp _ hr.1]
    rfl
  · rw [show s_fl 3 nb w f = f + nb + 10 from rfl, hq]
    rfl
  · rw [show s_fl 4 nb w f = (if w < 20 then f / 2 else f) + 3 from rfl, hw]
    rw [hp _ (by obtain ⟨k, e1, e2, e3⟩ := i_add (if 20 ≤ w then f else f / 2) 3; rw [show (3 : Int32).toInt = 3 from rfl] at e1; omega)]
    rfl
  · rw [show s_fl 5 nb w f = f + nb - 2 from rfl, hq]
    rfl
theorem STK.kd {a : Nat} {kd nb am : Int32} (h : STK S M a kd nb am) : kd = 0 ∨ kd = 1 ∨ kd = 2 ∨ kd = 3 ∨ kd = 4 ∨ kd = 5 := by
  obtain ⟨ci, hci, -, rfl, -⟩ := h
  rcases hci with rfl | rfl | rfl | rfl | rfl | rfl <;> decide
theorem fl_nn {kd nb w f : Int32} (hk : kd = 0 ∨ kd = 1 ∨ kd = 2 ∨ kd = 3 ∨ kd = 4 ∨ kd = 5) (h0 : 0 ≤ f.toInt) (h1 : f.toInt ≤ 99) : 0 ≤ (s_flight kd nb w f).toInt := by
  rw [← fl_max hk h0 h1]
  split
  · rename_i h
    rw [i_lt, show (0 : Int32).toInt = 0 from rfl] at h
    omega
  · exact Int.le_refl _
set_option maxHeartbeats 4000000 in
set_option maxRecDepth 100000 in
theorem kc_needs {c p : Nat} {E : RuleF} (hp : p < 2) {fr to : Int32} (hT : CRT x c P M E) (hC : CWF x S P) (hX : HSC x sc) : KK G sc yX1_needsOf cX1_needsOf 5 (some .int) 3 0 0 [.ref c, .ref (c + 1 + p), .int fr, .int to] (n, S, M, L, P) (ansI (s_needs E (M c 2) (M (c + 1 + p) 1) (M (c + 1 + p) 2) fr to) (n, S, M, L, P)) := by
  have hnp : ∀ p, p < 2 → ∀ k, ¬ sc (c + 1 + p) k := fun p hp k => by rw [Nat.add_assoc]; exact hT.ns hX (by omega) k
  have hns := hnp p hp
  have hat := hT.at
  obtain ⟨r, hr, hr3, hE⟩ := hT.2
  refine KK_of2 [(0, .ref c), (1, .ref (c + 1 + p)), (2, .int fr), (3, .int to)] (by decide +kernel) (Nat.le_of_ble_eq_true rfl) rfl ?_
  refine JJ_iload_n dX1_needsOf_0 rfl rfl ?_
  refine JJ_iload_n dX1_needsOf_1 rfl rfl ?_
  refine JJ_callSN (rest := []) (kc_apart) (by omega) mi_X11_apart lk_X1_33 rfl (Nat.le_of_ble_eq_true rfl) rfl rfl dX1_needsOf_2 ?_
  intro v1 μ2 h3
  obtain ⟨rfl, rfl⟩ := h3
  refine JJ_r1 ?_
  refine JJ_istore (lv' := [(4, .int (s_far fr to)), (0, .ref c), (1, .ref (c + 1 + p)), (2, .int fr), (3, .int to)]) dX1_needsOf_5 (by decide) rfl ?_
  refine JJ_iload dX1_needsOf_7 rfl ?_
  refine JJ_if_ne (tgt := 14) dX1_needsOf_9 (by decide) (fun c4 => ?_) (fun c4 => ?_)
  · skip
    refine JJ_iload dX1_needsOf_14 rfl ?_
    refine JJ_aload_n dX1_needsOf_16 rfl rfl ?_
    refine JJ_getr (q := x + 10 + 5 * r) (cis := [1]) (k := 3) fa_X1_25 (by decide) (congrArg Prod.fst (hT.sh hC).1) rfl hr3 dX1_needsOf_17 ?_
    refine JJ_iconst (v := 1) dX1_needsOf_20 rfl ?_
    refine JJ_aload_n dX1_needsOf_21 rfl rfl ?_
    refine JJ_aload_n dX1_needsOf_22 rfl rfl ?_
    refine JJ_geti (v := M c 2) (cis := [1]) (k := 2) fa_X1_21 (by decide) (congrArg Prod.fst (hT.sh hC).1) rfl (hT.ns hX (i := 0) (by decide) 2) rfl dX1_needsOf_23 ?_
    refine JJ_iload dX1_needsOf_26 rfl ?_
    refine JJ_iconst (v := 0) dX1_needsOf_28 rfl ?_
    refine JJ_iload_n dX1_needsOf_29 rfl rfl ?_
    refine JJ_callV (rest := [.int (s_far fr to)]) (hC.tsh hr).1 rfl rfl (kc_reckon (w := 1) (E := E) (by decide) hr hE (hT.pl hC hp) (by omega) hns hC hX) (by omega) mi_X10_reckon lk_X1_39 rfl (Nat.le_of_ble_eq_true rfl) rfl rfl dX1_needsOf_30 ?_
    intro v5 μ6 h7
    obtain ⟨rfl, rfl⟩ := h7
    refine JJ_r1 ?_
    refine JJ_bipush (v := 99) dX1_needsOf_33 rfl ?_
    refine JJ_callSN (rest := [.int (s_far fr to)]) (kc_within (m := 99) (by decide)) (by omega) mi_X11_within lk_X1_43 rfl (Nat.le_of_ble_eq_true rfl) rfl rfl dX1_needsOf_35 ?_
    intro v8 μ9 h10
    obtain ⟨rfl, rfl⟩ := h10
    refine JJ_r1 ?_
    refine JJ_imul dX1_needsOf_38 ?_
    refine JJ_iret dX1_needsOf_39 rfl ?_
    exact ans_i (Int32.mul_comm _ _)
  · skip
    refine JJ_iconst (v := 0) dX1_needsOf_12 rfl ?_
    refine JJ_iret dX1_needsOf_13 rfl ?_
    exact ans_i (by unfold s_needs; rw [c4, Int32.mul_zero])
set_option maxHeartbeats 4000000 in
set_option maxRecDepth 100000 in
theorem kc_tenths {c p : Nat} {E : RuleF} (hp : p < 2) {a : Nat} {kd nb am : Int32} (hst : STK S M a kd nb am) (hsa : ∀ k, ¬ sc a k) (hT : CRT x c P M E) (hC : CWF x S P) (hX : HSC x sc) : KK G sc yX1_tenthsOf cX1_tenthsOf 6 (some .int) 4 0 0 [.ref c, .ref (c + 1 + p), .ref a] (n, S, M, L, P) (ansI (s_tenths E (M c 2) (M (c + 1 + p) 1) (M (c + 1 + p) 2) kd nb (M (c + 1 + p) 0) (s_comes kd am (M (c + 1 + p) 0))) (n, S, M, L, P)) := by
  have hnp : ∀ p, p < 2 → ∀ k, ¬ sc (c + 1 + p) k := fun p hp k => by rw [Nat.add_assoc]; exact hT.ns hX (by omega) k
  have hns := hnp p hp
  have hat := hT.at
  obtain ⟨r, hr, hr3, hE⟩ := hT.2
  have hst0 := hst
  obtain ⟨ci, hci, hsa1, -, hnb, -⟩ := hst
  have hmm : ci ∈ [0, 2, 3, 4, 5, 8] := by rcases hci with rfl | rfl | rfl | rfl | rfl | rfl <;> decide
  have hkk : fkd ci 0 = 0 := by rcases hci with rfl | rfl | rfl | rfl | rfl | rfl <;> rfl
  refine KK_of2 [(0, .ref c), (1, .ref (c + 1 + p)), (2, .ref a)] (by decide +kernel) (Nat.le_of_ble_eq_true rfl) rfl ?_
  refine JJ_aload_n dX1_tenthsOf_0 rfl rfl ?_
  refine JJ_aload_n dX1_tenthsOf_1 rfl rfl ?_
  refine JJ_geti (v := M (c + 1 + p) 0) (cis := [6]) (k := 0) fa_X1_46 (by decide) (hT.pl hC hp) rfl (hns 0) rfl dX1_tenthsOf_2 ?_
  refine ju_X1_49 hst0 rfl hsa (by omega) (Nat.le_of_ble_eq_true rfl) dX1_tenthsOf_5 ?_
  refine JJ_istore_n (lv' := [(3, .int (s_comes kd am (M (c + 1 + p) 0))), (0, .ref c), (1, .ref (c + 1 + p)), (2, .ref a)]) dX1_tenthsOf_8 rfl (by decide) rfl ?_
  refine JJ_aload_n dX1_tenthsOf_9 rfl rfl ?_
  refine JJ_geti (v := M (c + 1 + p) 0) (cis := [6]) (k := 0) fa_X1_46 (by decide) (hT.pl hC hp) rfl (hns 0) rfl dX1_tenthsOf_10 ?_
  refine JJ_iload_n dX1_tenthsOf_13 rfl rfl ?_
  refine JJ_callSN (rest := []) (kc_apart) (by omega) mi_X11_apart lk_X1_33 rfl (Nat.le_of_ble_eq_true rfl) rfl rfl dX1_tenthsOf_14 ?_
  intro v1 μ2 h3
  obtain ⟨rfl, rfl⟩ := h3
  refine JJ_r1 ?_
  refine JJ_istore (lv' := [(4, .int (s_far (M (c + 1 + p) 0) (s_comes kd am (M (c + 1 + p) 0)))), (3, .int (s_comes kd am (M (c + 1 + p) 0))), (0, .ref c), (1, .ref (c + 1 + p)), (2, .ref a)]) dX1_tenthsOf_17 (by decide) rfl ?_
  refine JJ_aload_n dX1_tenthsOf_19 rfl rfl ?_
  refine JJ_getr (q := x + 10 + 5 * r) (cis := [1]) (k := 3) fa_X1_25 (by decide) (congrArg Prod.fst (hT.sh hC).1) rfl hr3 dX1_tenthsOf_20 ?_
  refine JJ_iconst (v := 0) dX1_tenthsOf_23 rfl ?_
  refine JJ_aload_n dX1_tenthsOf_24 rfl rfl ?_
  refine JJ_aload_n dX1_tenthsOf_25 rfl rfl ?_
  refine JJ_geti (v := M c 2) (cis := [1]) (k := 2) fa_X1_21 (by decide) (congrArg Prod.fst (hT.sh hC).1) rfl (hT.ns hX (i := 0) (by decide) 2) rfl dX1_tenthsOf_26 ?_
  refine JJ_iload dX1_tenthsOf_29 rfl ?_
  refine JJ_aload_n dX1_tenthsOf_31 rfl rfl ?_
  refine JJ_geti (v := nb) (cis := [0, 2, 3, 4, 5, 8]) (k := 0) fa_X1_55 hmm hsa1 hkk (hsa 0) hnb dX1_tenthsOf_32 ?_
  refine JJ_iload_n dX1_tenthsOf_35 rfl rfl ?_
  refine JJ_callV (rest := []) (hC.tsh hr).1 rfl rfl (kc_reckon (w := 0) (E := E) (by decide) hr hE (hT.pl hC hp) (by omega) hns hC hX) (by omega) mi_X10_reckon lk_X1_39 rfl (Nat.le_of_ble_eq_true rfl) rfl rfl dX1_tenthsOf_36 ?_
  intro v4 μ5 h6
  obtain ⟨rfl, rfl⟩ := h6
  refine JJ_r1 ?_
  refine JJ_istore (lv' := [(5, .int (E 0 (s_far (M (c + 1 + p) 0) (s_comes kd am (M (c + 1 + p) 0))) (M c 2) (M (c + 1 + p) 1) (M (c + 1 + p) 2) nb (s_comes kd am (M (c + 1 + p) 0)))), (4, .int (s_far (M (c + 1 + p) 0) (s_comes kd am (M (c + 1 + p) 0)))), (3, .int (s_comes kd am (M (c + 1 + p) 0))), (0, .ref c), (1, .ref (c + 1 + p)), (2, .ref a)]) dX1_tenthsOf_39 (by decide) rfl ?_
  refine JJ_iconst (v := 0) dX1_tenthsOf_41 rfl ?_
  refine JJ_aload_n dX1_tenthsOf_42 rfl rfl ?_
  refine JJ_iload dX1_tenthsOf_43 rfl ?_
  refine JJ_bipush (v := 99) dX1_tenthsOf_45 rfl ?_
  refine JJ_callSN (rest := [.ref a, .int 0]) (kc_within (m := 99) (by decide)) (by omega) mi_X11_within lk_X1_43 rfl (Nat.le_of_ble_eq_true rfl) rfl rfl dX1_tenthsOf_47 ?_
  intro v7 μ8 h9
  obtain ⟨rfl, rfl⟩ := h9
  refine JJ_r1 ?_
  refine JJ_aload_n dX1_tenthsOf_50 rfl rfl ?_
  refine JJ_geti (v := M c 2) (cis := [1]) (k := 2) fa_X1_21 (by decide) (congrArg Prod.fst (hT.sh hC).1) rfl (hT.ns hX (i := 0) (by decide) 2) rfl dX1_tenthsOf_51 ?_
  refine ju_X1_58 hst0 rfl hsa (by omega) (Nat.le_of_ble_eq_true rfl) dX1_tenthsOf_54 ?_
  refine JJ_max lk_X1_61 tb_637 tb_83 tb_638 (Nat.le_of_ble_eq_true rfl) dX1_tenthsOf_57 ?_
  refine JJ_iret dX1_tenthsOf_60 rfl ?_
  exact ans_i (fl_max hst0.kd (wi_rng (by decide)).1 (wi_rng (m := 99) (by decide)).2)
set_option maxHeartbeats 4000000 in
set_option maxRecDepth 100000 in
theorem kc_slips {c p : Nat} {E : RuleF} (hp : p < 2) {a : Nat} {kd nb am : Int32} (hst : STK S M a kd nb am) (hsa : ∀ k, ¬ sc a k) (hT : CRT x c P M E) (hC : CWF x S P) (hX : HSC x sc) : KK G sc yX1_slipsOf cX1_slipsOf 5 (some .int) 4 0 0 [.ref c, .ref (c + 1 + p), .ref a] (n, S, M, L, P) (ansI (s_slips E (M c 2) (M (c + 1 + p) 1) (M (c + 1 + p) 2) nb (M (c + 1 + p) 0) (s_comes kd am (M (c + 1 + p) 0))) (n, S, M, L, P)) := by
  have hnp : ∀ p, p < 2 → ∀ k, ¬ sc (c + 1 + p) k := fun p hp k => by rw [Nat.add_assoc]; exact hT.ns hX (by omega) k
  have hns := hnp p hp
  have hat := hT.at
  obtain ⟨r, hr, hr3, hE⟩ := hT.2
  have hst0 := hst
  obtain ⟨ci, hci, hsa1, -, hnb, -⟩ := hst
  have hmm : ci ∈ [0, 2, 3, 4, 5, 8] := by rcases hci with rfl | rfl | rfl | rfl | rfl | rfl <;> decide
  have hkk : fkd ci 0 = 0 := by rcases hci with rfl | rfl | rfl | rfl | rfl | rfl <;> rfl
  refine KK_of2 [(0, .ref c), (1, .ref (c + 1 + p)), (2, .ref a)] (by decide +kernel) (Nat.le_of_ble_eq_true rfl) rfl ?_
  refine JJ_aload_n dX1_slipsOf_0 rfl rfl ?_
  refine JJ_aload_n dX1_slipsOf_1 rfl rfl ?_
  refine JJ_geti (v := M (c + 1 + p) 0) (cis := [6]) (k := 0) fa_X1_46 (by decide) (hT.pl hC hp) rfl (hns 0) rfl dX1_slipsOf_2 ?_
  refine ju_X1_49 hst0 rfl hsa (by omega) (Nat.le_of_ble_eq_true rfl) dX1_slipsOf_5 ?_
  refine JJ_istore_n (lv' := [(3, .int (s_comes kd am (M (c + 1 + p) 0))), (0, .ref c), (1, .ref (c + 1 + p)), (2, .ref a)]) dX1_slipsOf_8 rfl (by decide) rfl ?_
  refine JJ_aload_n dX1_slipsOf_9 rfl rfl ?_
  refine JJ_geti (v := M (c + 1 + p) 0) (cis := [6]) (k := 0) fa_X1_46 (by decide) (hT.pl hC hp) rfl (hns 0) rfl dX1_slipsOf_10 ?_
  refine JJ_iload_n dX1_slipsOf_13 rfl rfl ?_
  refine JJ_callSN (rest := []) (kc_apart) (by omega) mi_X11_apart lk_X1_33 rfl (Nat.le_of_ble_eq_true rfl) rfl rfl dX1_slipsOf_14 ?_
  intro v1 μ2 h3
  obtain ⟨rfl, rfl⟩ := h3
  refine JJ_r1 ?_
  refine JJ_istore (lv' := [(4, .int (s_far (M (c + 1 + p) 0) (s_comes kd am (M (c + 1 + p) 0)))), (3, .int (s_comes kd am (M (c + 1 + p) 0))), (0, .ref c), (1, .ref (c + 1 + p)), (2, .ref a)]) dX1_slipsOf_17 (by decide) rfl ?_
  refine JJ_aload_n dX1_slipsOf_19 rfl rfl ?_
  refine JJ_getr (q := x + 10 + 5 * r) (cis := [1]) (k := 3) fa_X1_25 (by decide) (congrArg Prod.fst (hT.sh hC).1) rfl hr3 dX1_slipsOf_20 ?_
  refine JJ_iconst (v := 2) dX1_slipsOf_23 rfl ?_
  refine JJ_aload_n dX1_slipsOf_24 rfl rfl ?_
  refine JJ_aload_n dX1_slipsOf_25 rfl rfl ?_
  refine JJ_geti (v := M c 2) (cis := [1]) (k := 2) fa_X1_21 (by decide) (congrArg Prod.fst (hT.sh hC).1) rfl (hT.ns hX (i := 0) (by decide) 2) rfl dX1_slipsOf_26 ?_
  refine JJ_iload dX1_slipsOf_29 rfl ?_
  refine JJ_aload_n dX1_slipsOf_31 rfl rfl ?_
  refine JJ_geti (v := nb) (cis := [0, 2, 3, 4, 5, 8]) (k := 0) fa_X1_55 hmm hsa1 hkk (hsa 0) hnb dX1_slipsOf_32 ?_
  refine JJ_iload_n dX1_slipsOf_35 rfl rfl ?_
  refine JJ_callV (rest := []) (hC.tsh hr).1 rfl rfl (kc_reckon (w := 2) (E := E) (by decide) hr hE (hT.pl hC hp) (by omega) hns hC hX) (by omega) mi_X10_reckon lk_X1_39 rfl (Nat.le_of_ble_eq_true rfl) rfl rfl dX1_slipsOf_36 ?_
  intro v4 μ5 h6
  obtain ⟨rfl, rfl⟩ := h6
  refine JJ_r1 ?_
  refine JJ_bipush (v := 100) dX1_slipsOf_39 rfl ?_
  refine JJ_callSN (rest := []) (kc_within (m := 100) (by decide)) (by omega) mi_X11_within lk_X1_43 rfl (Nat.le_of_ble_eq_true rfl) rfl rfl dX1_slipsOf_41 ?_
  intro v7 μ8 h9
  obtain ⟨rfl, rfl⟩ := h9
  refine JJ_r1 ?_
  refine JJ_iret dX1_slipsOf_44 rfl ?_
  exact ans_i rfl
set_option maxHeartbeats 4000000 in
set_option maxRecDepth 100000 in
theorem kc_one {c p : Nat} {E : RuleF} (hp : p < 2)  (hT : CRT x c P M E) (hC : CWF x S P) (hX : HSC x sc) : KK G sc yX1_one cX1_one 2 (some (.object "MiddleOfCourt$Player")) 0 0 0 [.ref c, .int (nI p)] (n, S, M, L, P) (ansR (c + 1 + p) (n, S, M, L, P)) := by
  rcases (by omega : p = 0 ∨ p = 1) with rfl | rfl
  · skip
    refine KK_of2 [(0, .ref c), (1, .int 0)] (by decide +kernel) (Nat.le_of_ble_eq_true rfl) rfl ?_
    refine JJ_iload_n dX1_one_0 rfl rfl ?_
    refine JJ_if_ne (tgt := 11) dX1_one_1 (by decide) (fun c1 => absurd (by decide) c1) (fun _ => ?_)
    refine JJ_aload_n dX1_one_4 rfl rfl ?_
    refine JJ_getr (q := c + 1) (cis := [1]) (k := 0) fa_X1_12 (by decide) (congrArg Prod.fst (hT.sh hC).1) rfl (hT.sh hC).2.2.2.1 dX1_one_5 ?_
    refine JJ_goto (tgt := 15) dX1_one_8 (by decide) ?_
    refine JJ_aret dX1_one_15 rfl (Or.inr ⟨_, rfl⟩) ?_
    exact ⟨rfl, rfl⟩
  · skip
    refine KK_of2 [(0, .ref c), (1, .int 1)] (by decide +kernel) (Nat.le_of_ble_eq_true rfl) rfl ?_
    refine JJ_iload_n dX1_one_0 rfl rfl ?_
    refine JJ_if_ne (tgt := 11) dX1_one_1 (by decide) (fun _ => ?_) (fun c2 => absurd c2 (by decide))
    refine JJ_aload_n dX1_one_11 rfl rfl ?_
    refine JJ_getr (q := c + 2) (cis := [1]) (k := 1) fa_X1_18 (by decide) (congrArg Prod.fst (hT.sh hC).1) rfl (hT.sh hC).2.2.2.2 dX1_one_12 ?_
    refine JJ_aret dX1_one_15 rfl (Or.inr ⟨_, rfl⟩) ?_
    exact ⟨rfl, rfl⟩
theorem s_win_c {c p : Nat} {E : RuleF} {kd nb am : Int32} (hp : p < 2) : s_win E (cQ c M) kd nb am p (cG c M) ↔ s_tenths E (M c 2) (M (c + 1 + p) 1) (M (c + 1 + p) 2) kd nb (M (c + 1 + p) 0) (s_comes kd am (M (c + 1 + p) 0)) < s_needs E (M c 2) (M (c + 1 + (1 - p)) 1) (M (c + 1 + (1 - p)) 2) (M (c + 1 + (1 - p)) 0) (s_comes kd am (M (c + 1 + p) 0)) := by
  have hq : 1 - p < 2 := by omega
  unfold s_win s_t s_to
  rw [cG0 hp, cG1 hp, cG0 hq, cG1 hq, cG4, cQe hp, cQe hq]
theorem tenths_nn {E : RuleF} {w l q kd nb cc to : Int32} (hk : kd = 0 ∨ kd = 1 ∨ kd = 2 ∨ kd = 3 ∨ kd = 4 ∨ kd = 5) : 0 ≤ (s_tenths E w l q kd nb cc to).toInt := fl_nn hk (wi_rng (by decide)).1 (wi_rng (m := 99) (by decide)).2
set_option maxHeartbeats 4000000 in
set_option maxRecDepth 100000 in
theorem kc_would {c p : Nat} {E : RuleF} (hp : p < 2) {a : Nat} {kd nb am : Int32} (hst : STK S M a kd nb am) (hsa : ∀ k, ¬ sc a k) (hT : CRT x c P M E) (hC : CWF x S P) (hX : HSC x sc) : KK G sc yX1_wouldWin cX1_wouldWin 6 (some .boolean) 5 0 0 [.ref c, .int (nI p), .ref a] (n, S, M, L, P) (ansI (b2 (s_win E (cQ c M) kd nb am p (cG c M))) (n, S, M, L, P)) := by
  have hnp : ∀ p, p < 2 → ∀ k, ¬ sc (c + 1 + p) k := fun p hp k => by rw [Nat.add_assoc]; exact hT.ns hX (by omega) k
  have hns := hnp p hp
  have hat := hT.at
  obtain ⟨r, hr, hr3, hE⟩ := hT.2
  have hq : 1 - p < 2 := by omega
  have hnq := hnp (1 - p) hq
  refine KK_of2 [(0, .ref c), (1, .int (nI p)), (2, .ref a)] (by decide +kernel) (Nat.le_of_ble_eq_true rfl) rfl ?_
  refine JJ_aload_n dX1_wouldWin_0 rfl rfl ?_
  refine JJ_iload_n dX1_wouldWin_1 rfl rfl ?_
  refine JJ_callV (rest := []) (congrArg Prod.fst (hT.sh hC).1) rfl rfl (kc_one (p := p) hp hT hC hX) (by omega) mi_X1_one lk_X1_66 rfl (Nat.le_of_ble_eq_true rfl) rfl rfl dX1_wouldWin_2 ?_
  intro v1 μ2 h3
  obtain ⟨rfl, rfl⟩ := h3
  refine JJ_r1 ?_
  refine JJ_astore_n (lv' := [(3, .ref (c + 1 + p)), (0, .ref c), (1, .int (nI p)), (2, .ref a)]) dX1_wouldWin_5 rfl (by decide) rfl ?_
  refine JJ_aload_n dX1_wouldWin_6 rfl rfl ?_
  refine JJ_iconst (v := 1) dX1_wouldWin_7 rfl ?_
  refine JJ_iload_n dX1_wouldWin_8 rfl rfl ?_
  refine JJ_isub dX1_wouldWin_9 ?_
  refine JJ_eqi (x2 := nI (1 - p)) (e_sub1 hp) ?_
  refine JJ_callV (rest := []) (congrArg Prod.fst (hT.sh hC).1) rfl rfl (kc_one (p := (1 - p)) hq hT hC hX) (by omega) mi_X1_one lk_X1_66 rfl (Nat.le_of_ble_eq_true rfl) rfl rfl dX1_wouldWin_10 ?_
  intro v4 μ5 h6
  obtain ⟨rfl, rfl⟩ := h6
  refine JJ_r1 ?_
  refine JJ_astore (lv' := [(4, .ref (c + 1 + (1 - p))), (3, .ref (c + 1 + p)), (0, .ref c), (1, .int (nI p)), (2, .ref a)]) dX1_wouldWin_13 (by decide) rfl ?_
  refine JJ_aload_n dX1_wouldWin_15 rfl rfl ?_
  refine JJ_aload dX1_wouldWin_16 rfl ?_
  refine JJ_aload dX1_wouldWin_18 rfl ?_
  refine JJ_geti (v := M (c + 1 + (1 - p)) 0) (cis := [6]) (k := 0) fa_X1_46 (by decide) (hT.pl hC hq) rfl (hnq 0) rfl dX1_wouldWin_20 ?_
  refine JJ_aload_n dX1_wouldWin_23 rfl rfl ?_
  refine JJ_aload_n dX1_wouldWin_24 rfl rfl ?_
  refine JJ_geti (v := M (c + 1 + p) 0) (cis := [6]) (k := 0) fa_X1_46 (by decide) (hT.pl hC hp) rfl (hns 0) rfl dX1_wouldWin_25 ?_
  refine ju_X1_49 hst rfl hsa (by omega) (Nat.le_of_ble_eq_true rfl) dX1_wouldWin_28 ?_
  refine JJ_callV (rest := []) (congrArg Prod.fst (hT.sh hC).1) rfl rfl (kc_needs (p := (1 - p)) (E := E) hq hT hC hX) (by omega) mi_X1_needsOf lk_X1_70 rfl (Nat.le_of_ble_eq_true rfl) rfl rfl dX1_wouldWin_31 ?_
  intro v7 μ8 h9
  obtain ⟨rfl, rfl⟩ := h9
  refine JJ_r1 ?_
  refine JJ_istore (lv' := [(5, .int (s_needs E (M c 2) (M (c + 1 + (1 - p)) 1) (M (c + 1 + (1 - p)) 2) (M (c + 1 + (1 - p)) 0) (s_comes kd am (M (c + 1 + p) 0)))), (4, .ref (c + 1 + (1 - p))), (3, .ref (c + 1 + p)), (0, .ref c), (1, .int (nI p)), (2, .ref a)]) dX1_wouldWin_34 (by decide) rfl ?_
  refine JJ_iload dX1_wouldWin_36 rfl ?_
  refine JJ_if_le (tgt := 56) dX1_wouldWin_38 (by decide) (fun c10 => ?_) (fun c10 => ?_)
  · skip
    refine JJ_iconst (v := 0) dX1_wouldWin_56 rfl ?_
    refine JJ_zret dX1_wouldWin_57 rfl (Or.inl rfl) ?_
    exact ans_i (b2_f (fun z => by have y1 := (s_win_c hp).mp z; have y2 := c10; have y3 := tenths_nn (E := E) (w := M c 2) (l := M (c + 1 + p) 1) (q := M (c + 1 + p) 2) (nb := nb) (cc := M (c + 1 + p) 0) (to := s_comes kd am (M (c + 1 + p) 0)) hst.kd; rw [i_lt] at y1; rw [i_le, show (0 : Int32).toInt = 0 from rfl] at y2; omega)).symm
  · skip
    refine JJ_iload dX1_wouldWin_41 rfl ?_
    refine JJ_aload_n dX1_wouldWin_43 rfl rfl ?_
    refine JJ_aload_n dX1_wouldWin_44 rfl rfl ?_
    refine JJ_aload_n dX1_wouldWin_45 rfl rfl ?_
    refine JJ_callV (rest := [.int (s_needs E (M c 2) (M (c + 1 + (1 - p)) 1) (M (c + 1 + (1 - p)) 2) (M (c + 1 + (1 - p)) 0) (s_comes kd am (M (c + 1 + p) 0)))]) (congrArg Prod.fst (hT.sh hC).1) rfl rfl (kc_tenths (p := p) (E := E) hp hst hsa hT hC hX) (by omega) mi_X1_tenthsOf lk_X1_74 rfl (Nat.le_of_ble_eq_true rfl) rfl rfl dX1_wouldWin_46 ?_
    intro v11 μ12 h13
    obtain ⟨rfl, rfl⟩ := h13
    refine JJ_r1 ?_
    refine JJ_icmp_le (tgt := 56) dX1_wouldWin_49 (by decide) (fun c14 => ?_) (fun c14 => ?_)
    · skip
      refine JJ_iconst (v := 0) dX1_wouldWin_56 rfl ?_
      refine JJ_zret dX1_wouldWin_57 rfl (Or.inl rfl) ?_
      exact ans_i (b2_f (fun z => Int32.not_lt.mpr c14 ((s_win_c hp).mp z))).symm
    · skip
      refine JJ_iconst (v := 1) dX1_wouldWin_52 rfl ?_
      refine JJ_goto (tgt := 57) dX1_wouldWin_53 (by decide) ?_
      refine JJ_zret dX1_wouldWin_57 rfl (Or.inr rfl) ?_
      exact ans_i (b2_t ((s_win_c hp).mpr (Int32.not_le.mp c14))).symm
end C5
