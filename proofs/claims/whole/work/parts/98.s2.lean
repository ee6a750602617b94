section C29
variable {G : Gx} {sc : Nat → Nat → Prop} {n : Nat} {S : Nat → Nat × Nat} {M : Nat → Nat → Int32} {L : Nat → Nat → Int64} {P : Nat → Nat → Option Nat} {x : Nat} {A B : Abs} {b : Nat → Int32}

/-- the tape holds the token read from i on -/
def TKC (x : Nat) (b : Nat → Int32) (m i : Nat) (M : Nat → Nat → Int32) : Prop := M (x + 2) 5 = (tok b m i).1 ∧ M (x + 2) 4 = nI (tok b m i).2.2.1 ∧ M (x + 2) 3 = nI (tok b m i).2.2.2 ∧ ((tok b m i).1 = 1 ∨ (tok b m i).1 = 2 → M (x + 2) 6 = (tok b m i).2.1)
/-- what the reading of a token changes -/
abbrev TkD (x a k : Nat) : Prop := a = x + 2 ∧ 3 ≤ k ∧ k ≤ 6
abbrev WD (x a k : Nat) : Prop := a = x + 2 ∧ (k = 3 ∨ k = 5 ∨ k = 6)
set_option maxHeartbeats 4000000 in
set_option maxRecDepth 100000 in
theorem kc_nextWord {m s : Nat} (hb : ∀ i, M (x + 3) i = b i) (hm : M (x + 2) 1 = nI m) (h160 : m ≤ 160) (hs : s ≤ m) (h3 : M (x + 2) 3 = nI s) (h4 : M (x + 2) 4 = nI s) (hC : CWT x S P) (hX : HSC x sc) : KK G sc yX9_nextWord cX9_nextWord 1 none 6 0 0 [.ref (x + 2)] (n, S, M, L, P) (fun v μ => v = none ∧ ∃ M', μ = (n, S, M', L, P) ∧ M' (x + 2) 3 = nI (skL b m s) ∧ M' (x + 2) 6 = wname b s (skL b m s) ∧ M' (x + 2) 5 = (if wname b s (skL b m s) = 0 then wkey b s (skL b m s) else 2) ∧ ∀ a k, ¬ WD x a k → M' a k = M a k) := by
  have tail : ∀ (e : Nat) (Mx : Nat → Nat → Int32), s ≤ e → e ≤ m → skL b m s = e → Mx (x + 2) 3 = nI e → (∀ a k, ¬ (a = x + 2 ∧ k = 3) → Mx a k = M a k) → JJ G sc yX9_nextWord cX9_nextWord 1 none 6 0 0 (fun v μ => v = none ∧ ∃ M', μ = (n, S, M', L, P) ∧ M' (x + 2) 3 = nI (skL b m s) ∧ M' (x + 2) 6 = wname b s (skL b m s) ∧ M' (x + 2) 5 = (if wname b s (skL b m s) = 0 then wkey b s (skL b m s) else 2) ∧ ∀ a k, ¬ WD x a k → M' a k = M a k) 38 [(0, .ref (x + 2))] [] (n, S, Mx, L, P) := by
    intro e Mx hse hem hsk g3 hf
    have g4 : Mx (x + 2) 4 = nI s := (hf _ _ (by omega)).trans h4
    have hbx : (fun i => Mx (x + 3) i) = b := funext fun i => (hf _ _ (by omega)).trans (hb i)
    rw [hsk]
    refine JJ_aload_n dX9_nextWord_38 rfl rfl ?_
    refine JJ_aload_n dX9_nextWord_39 rfl rfl ?_
    refine JJ_callV (rest := [.ref (x + 2)]) (congrArg Prod.fst (hC.sh (t := 2) (k := 10) (m := 0) (by decide))) rfl rfl (kc_nameOfWord g4 g3 hse (by omega) hC hX) (by omega) mi_X9_nameOfWord lk_X9_115 rfl (Nat.le_of_ble_eq_true rfl) rfl rfl dX9_nextWord_40 ?_
    intro v1 μ2 h3
    obtain ⟨rfl, rfl⟩ := h3
    refine JJ_r1 ?_
    refine JJ_eqi (x2 := wname b s e) (by rw [hbx]) ?_
    refine JJ_puti (cis := [9]) (k := 6) fa_X9_32 (by decide) (congrArg Prod.fst (hC.sh (t := 2) (k := 10) (m := 0) (by decide))) rfl (fun r hr => by cases hr; exact ⟨rfl, by decide +kernel⟩) dX9_nextWord_43 (fun M4 hM5 => ?_)
    refine JJ_aload_n dX9_nextWord_46 rfl rfl ?_
    refine JJ_aload_n dX9_nextWord_47 rfl rfl ?_
    refine JJ_geti (v := wname b s e) (cis := [9]) (k := 6) fa_X9_32 (by decide) (congrArg Prod.fst (hC.sh (t := 2) (k := 10) (m := 0) (by decide))) rfl (hX.1 _ _ (by omega) (by omega) (by omega)) (rd_s hM5) dX9_nextWord_48 ?_
    refine JJ_if_eq (tgt := 58) dX9_nextWord_51 (by decide) (fun c6 => ?_) (fun c6 => ?_)
    · skip
      refine JJ_aload_n dX9_nextWord_58 rfl rfl ?_
      refine JJ_callV (rest := [.ref (x + 2)]) (congrArg Prod.fst (hC.sh (t := 2) (k := 10) (m := 0) (by decide))) rfl rfl (kc_keyOfWord (s := s) (e := e) (rd_n hM5 (by omega) g4) (rd_n hM5 (by omega) g3) hse (by omega) hC hX) (by omega) mi_X9_keyOfWord lk_X9_118 rfl (Nat.le_of_ble_eq_true rfl) rfl rfl dX9_nextWord_59 ?_
      intro v7 μ8 h9
      obtain ⟨rfl, rfl⟩ := h9
      refine JJ_r1 ?_
      refine JJ_eqi (x2 := wkey b s e) (by rw [show (fun i => M4 (x + 3) i) = b from funext fun i => rd_n hM5 (by omega) (congrFun hbx i)]) ?_
      refine JJ_puti (cis := [9]) (k := 5) fa_X9_29 (by decide) (congrArg Prod.fst (hC.sh (t := 2) (k := 10) (m := 0) (by decide))) rfl (fun r hr => by cases hr; exact ⟨rfl, by decide +kernel⟩) dX9_nextWord_62 (fun M10 hM11 => ?_)
      refine JJ_vret dX9_nextWord_65 rfl ?_
      exact ⟨rfl, M10, rfl, rd_n hM11 (by omega) (rd_n hM5 (by omega) g3), rd_n hM11 (by omega) (rd_s hM5), (rd_s hM11).trans (if_pos c6).symm, fun a k z => rd_n hM11 (by omega) (rd_n hM5 (by omega) (hf a k (by omega)))⟩
    · skip
      refine JJ_iconst (v := 2) dX9_nextWord_54 rfl ?_
      refine JJ_goto (tgt := 62) dX9_nextWord_55 (by decide) ?_
      refine JJ_puti (cis := [9]) (k := 5) fa_X9_29 (by decide) (congrArg Prod.fst (hC.sh (t := 2) (k := 10) (m := 0) (by decide))) rfl (fun r hr => by cases hr; exact ⟨rfl, by decide +kernel⟩) dX9_nextWord_62 (fun M12 hM13 => ?_)
      refine JJ_vret dX9_nextWord_65 rfl ?_
      exact ⟨rfl, M12, rfl, rd_n hM13 (by omega) (rd_n hM5 (by omega) g3), rd_n hM13 (by omega) (rd_s hM5), (rd_s hM13).trans (if_neg c6).symm, fun a k z => rd_n hM13 (by omega) (rd_n hM5 (by omega) (hf a k (by omega)))⟩
  have key : ∀ (d e : Nat) (Mx : Nat → Nat → Int32), e + d = m → s ≤ e → skL b m e = skL b m s → Mx (x + 2) 3 = nI e → (∀ a k, ¬ (a = x + 2 ∧ k = 3) → Mx a k = M a k) → JJ G sc yX9_nextWord cX9_nextWord 1 none 6 0 0 (fun v μ => v = none ∧ ∃ M', μ = (n, S, M', L, P) ∧ M' (x + 2) 3 = nI (skL b m s) ∧ M' (x + 2) 6 = wname b s (skL b m s) ∧ M' (x + 2) 5 = (if wname b s (skL b m s) = 0 then wkey b s (skL b m s) else 2) ∧ ∀ a k, ¬ WD x a k → M' a k = M a k) 0 [(0, .ref (x + 2))] [] (n, S, Mx, L, P) := by
    intro d
    induction d with
    | zero =>
      intro e Mx hed hse hsk g3 hf
      have g1 : Mx (x + 2) 1 = nI m := (hf _ _ (by omega)).trans hm
      refine JJ_aload_n dX9_nextWord_0 rfl rfl ?_
      refine JJ_geti (v := nI e) (cis := [9]) (k := 3) fa_X9_23 (by decide) (congrArg Prod.fst (hC.sh (t := 2) (k := 10) (m := 0) (by decide))) rfl (hX.1 _ _ (by omega) (by omega) (by omega)) g3 dX9_nextWord_1 ?_
      refine JJ_aload_n dX9_nextWord_4 rfl rfl ?_
      refine JJ_geti (v := nI m) (cis := [9]) (k := 1) fa_X9_15 (by decide) (congrArg Prod.fst (hC.sh (t := 2) (k := 10) (m := 0) (by decide))) rfl (hX.1 _ _ (by omega) (by omega) (by omega)) g1 dX9_nextWord_5 ?_
      refine JJ_icmp_ge (tgt := 38) dX9_nextWord_8 (by decide) (fun _ => ?_) (fun c14 => absurd (nI_le (by omega) (by omega)) c14)
      refine JJ.pick [0] rfl ?_
      exact tail e Mx hse (by omega) (hsk.symm.trans (run_end (by omega))) g3 hf
    | succ d ih =>
      intro e Mx hed hse hsk g3 hf
      have g1 : Mx (x + 2) 1 = nI m := (hf _ _ (by omega)).trans hm
      refine JJ_aload_n dX9_nextWord_0 rfl rfl ?_
      refine JJ_geti (v := nI e) (cis := [9]) (k := 3) fa_X9_23 (by decide) (congrArg Prod.fst (hC.sh (t := 2) (k := 10) (m := 0) (by decide))) rfl (hX.1 _ _ (by omega) (by omega) (by omega)) g3 dX9_nextWord_1 ?_
      refine JJ_aload_n dX9_nextWord_4 rfl rfl ?_
      refine JJ_geti (v := nI m) (cis := [9]) (k := 1) fa_X9_15 (by decide) (congrArg Prod.fst (hC.sh (t := 2) (k := 10) (m := 0) (by decide))) rfl (hX.1 _ _ (by omega) (by omega) (by omega)) g1 dX9_nextWord_5 ?_
      refine JJ_icmp_ge (tgt := 38) dX9_nextWord_8 (by decide) (fun c15 => absurd c15 (nI_ge (by omega) (by omega))) (fun _ => ?_)
      refine JJ_aload_n dX9_nextWord_11 rfl rfl ?_
      refine JJ_aload_n dX9_nextWord_12 rfl rfl ?_
      refine JJ_geti (v := nI e) (cis := [9]) (k := 3) fa_X9_23 (by decide) (congrArg Prod.fst (hC.sh (t := 2) (k := 10) (m := 0) (by decide))) rfl (hX.1 _ _ (by omega) (by omega) (by omega)) g3 dX9_nextWord_13 ?_
      refine JJ_callV (rest := []) (congrArg Prod.fst (hC.sh (t := 2) (k := 10) (m := 0) (by decide))) rfl rfl (kc_letterAt (i := e) g1 (by omega) (by omega) hC hX) (by omega) mi_X9_letterAt lk_X9_96 rfl (Nat.le_of_ble_eq_true rfl) rfl rfl dX9_nextWord_16 ?_
      intro v16 μ17 h18
      obtain ⟨rfl, rfl⟩ := h18
      refine JJ_r1 ?_
      refine JJ_eqi (x2 := b e) (by rw [if_pos (by omega)]; exact (hf _ _ (by omega)).trans (hb _)) ?_
      refine JJ_callS (rest := []) (kc_isLetter) (by omega) mi_X9_isLetter lk_X9_100 rfl (Nat.le_of_ble_eq_true rfl) rfl rfl dX9_nextWord_19 ?_
      intro v19 μ20 h21
      obtain ⟨rfl, rfl⟩ := h21
      refine JJ_r1 ?_
      refine JJ_if_eq (tgt := 38) dX9_nextWord_22 (by decide) (fun c22 => ?_) (fun c22 => ?_)
      · skip
        refine JJ.pick [0] rfl ?_
        exact tail e Mx hse (by omega) (hsk.symm.trans (run_n (by rw [bt_in (by omega)]; exact b2_0.mp c22))) g3 hf
      · skip
        refine JJ_aload_n dX9_nextWord_25 rfl rfl ?_
        refine JJ_dup dX9_nextWord_26 rfl ?_
        refine JJ_geti (v := nI e) (cis := [9]) (k := 3) fa_X9_23 (by decide) (congrArg Prod.fst (hC.sh (t := 2) (k := 10) (m := 0) (by decide))) rfl (hX.1 _ _ (by omega) (by omega) (by omega)) g3 dX9_nextWord_27 ?_
        refine JJ_iconst (v := 1) dX9_nextWord_30 rfl ?_
        refine JJ_iadd dX9_nextWord_31 ?_
        refine JJ_eqi (x2 := nI (e + 1)) (nI_add (e) (1)) ?_
        refine JJ_puti (cis := [9]) (k := 3) fa_X9_23 (by decide) (congrArg Prod.fst (hC.sh (t := 2) (k := 10) (m := 0) (by decide))) rfl (fun r hr => by cases hr; exact ⟨rfl, by decide +kernel⟩) dX9_nextWord_32 (fun M23 hM24 => ?_)
        refine JJ_goto (tgt := 0) dX9_nextWord_35 (by decide) ?_
        refine JJ.pick [0] rfl ?_
        exact ih (e + 1) M23 (by omega) (by omega) ((run_y (p := isLt) (by rw [bt_in (by omega)]; exact b2_n.mp c22) (by omega)).symm.trans hsk) (rd_s hM24) (fun a k z => rd_n hM24 (by omega) (hf a k z))
  exact KK_of2 [(0, .ref (x + 2))] (by decide +kernel) (Nat.le_of_ble_eq_true rfl) rfl (key (m - s) s M (by omega) (Nat.le_refl _) rfl h3 (fun _ _ _ => rfl))
set_option maxHeartbeats 4000000 in
set_option maxRecDepth 100000 in
theorem kc_nextNumber {m s : Nat} (hb : ∀ i, M (x + 3) i = b i) (hm : M (x + 2) 1 = nI m) (h160 : m ≤ 160) (hs : s ≤ m) (h3 : M (x + 2) 3 = nI s) (h4 : M (x + 2) 4 = nI s) (hC : CWT x S P) (hX : HSC x sc) : KK G sc yX9_nextNumber cX9_nextNumber 1 none 6 0 0 [.ref (x + 2)] (n, S, M, L, P) (fun v μ => v = none ∧ ∃ M', μ = (n, S, M', L, P) ∧ M' (x + 2) 3 = nI (skD b m s) ∧ M' (x + 2) 6 = dgs b s (skD b m s - s) ∧ M' (x + 2) 5 = (if 4 < skD b m s - s then 9 else 1) ∧ ∀ a k, ¬ WD x a k → M' a k = M a k) := by
  have tail : ∀ (e : Nat) (Mx : Nat → Nat → Int32), s ≤ e → e ≤ m → skD b m s = e → Mx (x + 2) 3 = nI e → Mx (x + 2) 6 = dgs b s (e - s) → (∀ a k, ¬ (a = x + 2 ∧ (k = 3 ∨ k = 6)) → Mx a k = M a k) → JJ G sc yX9_nextNumber cX9_nextNumber 1 none 6 0 0 (fun v μ => v = none ∧ ∃ M', μ = (n, S, M', L, P) ∧ M' (x + 2) 3 = nI (skD b m s) ∧ M' (x + 2) 6 = dgs b s (skD b m s - s) ∧ M' (x + 2) 5 = (if 4 < skD b m s - s then 9 else 1) ∧ ∀ a k, ¬ WD x a k → M' a k = M a k) 66 [(0, .ref (x + 2))] [] (n, S, Mx, L, P) := by
    intro e Mx hse hem hsk g3 g6 hf
    have g4 : Mx (x + 2) 4 = nI s := (hf _ _ (by omega)).trans h4
    rw [hsk]
    refine JJ_aload_n dX9_nextNumber_66 rfl rfl ?_
    refine JJ_aload_n dX9_nextNumber_67 rfl rfl ?_
    refine JJ_geti (v := nI e) (cis := [9]) (k := 3) fa_X9_23 (by decide) (congrArg Prod.fst (hC.sh (t := 2) (k := 10) (m := 0) (by decide))) rfl (hX.1 _ _ (by omega) (by omega) (by omega)) g3 dX9_nextNumber_68 ?_
    refine JJ_aload_n dX9_nextNumber_71 rfl rfl ?_
    refine JJ_geti (v := nI s) (cis := [9]) (k := 4) fa_X9_26 (by decide) (congrArg Prod.fst (hC.sh (t := 2) (k := 10) (m := 0) (by decide))) rfl (hX.1 _ _ (by omega) (by omega) (by omega)) g4 dX9_nextNumber_72 ?_
    refine JJ_isub dX9_nextNumber_75 ?_
    refine JJ_eqi (x2 := nI (e - s)) (pk_sub (a := e) (b := s) (by omega)) ?_
    refine JJ_iconst (v := 4) dX9_nextNumber_76 rfl ?_
    refine JJ_icmp_le (tgt := 85) dX9_nextNumber_77 (by decide) (fun c1 => ?_) (fun c1 => ?_)
    · skip
      refine JJ_iconst (v := 1) dX9_nextNumber_85 rfl ?_
      refine JJ_puti (cis := [9]) (k := 5) fa_X9_29 (by decide) (congrArg Prod.fst (hC.sh (t := 2) (k := 10) (m := 0) (by decide))) rfl (fun r hr => by cases hr; exact ⟨rfl, by decide +kernel⟩) dX9_nextNumber_86 (fun M2 hM3 => ?_)
      refine JJ_vret dX9_nextNumber_89 rfl ?_
      exact ⟨rfl, M2, rfl, rd_n hM3 (by omega) g3, rd_n hM3 (by omega) g6, (rd_s hM3).trans (if_neg (fun z => absurd c1 (nI_ge (a := 4) (by omega) (by omega)))).symm, fun a k z => rd_n hM3 (by omega) (hf a k (by omega))⟩
    · skip
      refine JJ_bipush (v := 9) dX9_nextNumber_80 rfl ?_
      refine JJ_goto (tgt := 86) dX9_nextNumber_82 (by decide) ?_
      refine JJ_puti (cis := [9]) (k := 5) fa_X9_29 (by decide) (congrArg Prod.fst (hC.sh (t := 2) (k := 10) (m := 0) (by decide))) rfl (fun r hr => by cases hr; exact ⟨rfl, by decide +kernel⟩) dX9_nextNumber_86 (fun M4 hM5 => ?_)
      refine JJ_vret dX9_nextNumber_89 rfl ?_
      exact ⟨rfl, M4, rfl, rd_n hM5 (by omega) g3, rd_n hM5 (by omega) g6, (rd_s hM5).trans (if_pos (Nat.lt_of_not_le (fun z => c1 (nI_le (b := 4) z (by omega))))).symm, fun a k z => rd_n hM5 (by omega) (hf a k (by omega))⟩
  have key : ∀ (d e : Nat) (Mx : Nat → Nat → Int32), e + d = m → s ≤ e → skD b m e = skD b m s → Mx (x + 2) 3 = nI e → Mx (x + 2) 6 = dgs b s (e - s) → (∀ a k, ¬ (a = x + 2 ∧ (k = 3 ∨ k = 6)) → Mx a k = M a k) → JJ G sc yX9_nextNumber cX9_nextNumber 1 none 6 0 0 (fun v μ => v = none ∧ ∃ M', μ = (n, S, M', L, P) ∧ M' (x + 2) 3 = nI (skD b m s) ∧ M' (x + 2) 6 = dgs b s (skD b m s - s) ∧ M' (x + 2) 5 = (if 4 < skD b m s - s then 9 else 1) ∧ ∀ a k, ¬ WD x a k → M' a k = M a k) 5 [(0, .ref (x + 2))] [] (n, S, Mx, L, P) := by
    intro d
    induction d with
    | zero =>
      intro e Mx hed hse hsk g3 g6 hf
      have g1 : Mx (x + 2) 1 = nI m := (hf _ _ (by omega)).trans hm
      refine JJ_aload_n dX9_nextNumber_5 rfl rfl ?_
      refine JJ_geti (v := nI e) (cis := [9]) (k := 3) fa_X9_23 (by decide) (congrArg Prod.fst (hC.sh (t := 2) (k := 10) (m := 0) (by decide))) rfl (hX.1 _ _ (by omega) (by omega) (by omega)) g3 dX9_nextNumber_6 ?_
      refine JJ_aload_n dX9_nextNumber_9 rfl rfl ?_
      refine JJ_geti (v := nI m) (cis := [9]) (k := 1) fa_X9_15 (by decide) (congrArg Prod.fst (hC.sh (t := 2) (k := 10) (m := 0) (by decide))) rfl (hX.1 _ _ (by omega) (by omega) (by omega)) g1 dX9_nextNumber_10 ?_
      refine JJ_icmp_ge (tgt := 66) dX9_nextNumber_13 (by decide) (fun _ => ?_) (fun c6 => absurd (nI_le (by omega) (by omega)) c6)
      refine JJ.pick [0] rfl ?_
      exact tail e Mx hse (by omega) (hsk.symm.trans (run_end (by omega))) g3 g6 hf
    | succ d ih =>
      intro e Mx hed hse hsk g3 g6 hf
      have g1 : Mx (x + 2) 1 = nI m := (hf _ _ (by omega)).trans hm
      refine JJ_aload_n dX9_nextNumber_5 rfl rfl ?_
      refine JJ_geti (v := nI e) (cis := [9]) (k := 3) fa_X9_23 (by decide) (congrArg Prod.fst (hC.sh (t := 2) (k := 10) (m := 0) (by decide))) rfl (hX.1 _ _ (by omega) (by omega) (by omega)) g3 dX9_nextNumber_6 ?_
      refine JJ_aload_n dX9_nextNumber_9 rfl rfl ?_
      refine JJ_geti (v := nI m) (cis := [9]) (k := 1) fa_X9_15 (by decide) (congrArg Prod.fst (hC.sh (t := 2) (k := 10) (m := 0) (by decide))) rfl (hX.1 _ _ (by omega) (by omega) (by omega)) g1 dX9_nextNumber_10 ?_
      refine JJ_icmp_ge (tgt := 66) dX9_nextNumber_13 (by decide) (fun c7 => absurd c7 (nI_ge (by omega) (by omega))) (fun _ => ?_)
      refine JJ_aload_n dX9_nextNumber_16 rfl rfl ?_
      refine JJ_aload_n dX9_nextNumber_17 rfl rfl ?_
      refine JJ_geti (v := nI e) (cis := [9]) (k := 3) fa_X9_23 (by decide) (congrArg Prod.fst (hC.sh (t := 2) (k := 10) (m := 0) (by decide))) rfl (hX.1 _ _ (by omega) (by omega) (by omega)) g3 dX9_nextNumber_18 ?_
      refine JJ_callV (rest := []) (congrArg Prod.fst (hC.sh (t := 2) (k := 10) (m := 0) (by decide))) rfl rfl (kc_letterAt (i := e) g1 (by omega) (by omega) hC hX) (by omega) mi_X9_letterAt lk_X9_96 rfl (Nat.le_of_ble_eq_true rfl) rfl rfl dX9_nextNumber_21 ?_
      intro v8 μ9 h10
      obtain ⟨rfl, rfl⟩ := h10
      refine JJ_r1 ?_
      refine JJ_eqi (x2 := b e) (by rw [if_pos (by omega)]; exact (hf _ _ (by omega)).trans (hb _)) ?_
      refine JJ_callS (rest := []) (kc_isDigit) (by omega) mi_X9_isDigit lk_X9_106 rfl (Nat.le_of_ble_eq_true rfl) rfl rfl dX9_nextNumber_24 ?_
      intro v11 μ12 h13
      obtain ⟨rfl, rfl⟩ := h13
      refine JJ_r1 ?_
      refine JJ_if_eq (tgt := 66) dX9_nextNumber_27 (by decide) (fun c14 => ?_) (fun c14 => ?_)
      · skip
        refine JJ.pick [0] rfl ?_
        exact tail e Mx hse (by omega) (hsk.symm.trans (run_n (by rw [bt_in (by omega)]; exact b2_0.mp c14))) g3 g6 hf
      · skip
        refine JJ_aload_n dX9_nextNumber_30 rfl rfl ?_
        refine JJ_aload_n dX9_nextNumber_31 rfl rfl ?_
        refine JJ_geti (v := dgs b s (e - s)) (cis := [9]) (k := 6) fa_X9_32 (by decide) (congrArg Prod.fst (hC.sh (t := 2) (k := 10) (m := 0) (by decide))) rfl (hX.1 _ _ (by omega) (by omega) (by omega)) g6 dX9_nextNumber_32 ?_
        refine JJ_bipush (v := 10) dX9_nextNumber_35 rfl ?_
        refine JJ_imul dX9_nextNumber_37 ?_
        refine JJ_aload_n dX9_nextNumber_38 rfl rfl ?_
        refine JJ_aload_n dX9_nextNumber_39 rfl rfl ?_
        refine JJ_geti (v := nI e) (cis := [9]) (k := 3) fa_X9_23 (by decide) (congrArg Prod.fst (hC.sh (t := 2) (k := 10) (m := 0) (by decide))) rfl (hX.1 _ _ (by omega) (by omega) (by omega)) g3 dX9_nextNumber_40 ?_
        refine JJ_callV (rest := [.int ((dgs b s (e - s)) * 10), .ref (x + 2)]) (congrArg Prod.fst (hC.sh (t := 2) (k := 10) (m := 0) (by decide))) rfl rfl (kc_letterAt (i := e) g1 (by omega) (by omega) hC hX) (by omega) mi_X9_letterAt lk_X9_96 rfl (Nat.le_of_ble_eq_true rfl) rfl rfl dX9_nextNumber_43 ?_
        intro v15 μ16 h17
        obtain ⟨rfl, rfl⟩ := h17
        refine JJ_r1 ?_
        refine JJ_eqi (x2 := b e) (by rw [if_pos (by omega)]; exact (hf _ _ (by omega)).trans (hb _)) ?_
        refine JJ_iadd dX9_nextNumber_46 ?_
        refine JJ_bipush (v := 48) dX9_nextNumber_47 rfl ?_
        refine JJ_isub dX9_nextNumber_49 ?_
        refine JJ_puti (cis := [9]) (k := 6) fa_X9_32 (by decide) (congrArg Prod.fst (hC.sh (t := 2) (k := 10) (m := 0) (by decide))) rfl (fun r hr => by cases hr; exact ⟨rfl, by decide +kernel⟩) dX9_nextNumber_50 (fun M18 hM19 => ?_)
        refine JJ_aload_n dX9_nextNumber_53 rfl rfl ?_
        refine JJ_dup dX9_nextNumber_54 rfl ?_
        refine JJ_geti (v := nI e) (cis := [9]) (k := 3) fa_X9_23 (by decide) (congrArg Prod.fst (hC.sh (t := 2) (k := 10) (m := 0) (by decide))) rfl (hX.1 _ _ (by omega) (by omega) (by omega)) (rd_n hM19 (by omega) g3) dX9_nextNumber_55 ?_
        refine JJ_iconst (v := 1) dX9_nextNumber_58 rfl ?_
        refine JJ_iadd dX9_nextNumber_59 ?_
        refine JJ_eqi (x2 := nI (e + 1)) (nI_add (e) (1)) ?_
        refine JJ_puti (cis := [9]) (k := 3) fa_X9_23 (by decide) (congrArg Prod.fst (hC.sh (t := 2) (k := 10) (m := 0) (by decide))) rfl (fun r hr => by cases hr; exact ⟨rfl, by decide +kernel⟩) dX9_nextNumber_60 (fun M20 hM21 => ?_)
        refine JJ_goto (tgt := 5) dX9_nextNumber_63 (by decide) ?_
        refine JJ.pick [0] rfl ?_
        exact ih (e + 1) M20 (by omega) (by omega) ((run_y (p := isDg) (by rw [bt_in (by omega)]; exact b2_n.mp c14) (by omega)).symm.trans hsk) (rd_s hM21) (rd_n hM21 (by omega) ((rd_s hM19).trans (by rw [show e + 1 - s = (e - s) + 1 by omega]; show _ = dgs b s (e - s) * 10 + b (s + (e - s)) - 48; rw [show s + (e - s) = e by omega]))) (fun a k z => rd_n hM21 (by omega) (rd_n hM19 (by omega) (hf a k z)))
  refine KK_of2 [(0, .ref (x + 2))] (by decide +kernel) (Nat.le_of_ble_eq_true rfl) rfl ?_
  refine JJ_aload_n dX9_nextNumber_0 rfl rfl ?_
  refine JJ_iconst (v := 0) dX9_nextNumber_1 rfl ?_
  refine JJ_puti (cis := [9]) (k := 6) fa_X9_32 (by decide) (congrArg Prod.fst (hC.sh (t := 2) (k := 10) (m := 0) (by decide))) rfl (fun r hr => by cases hr; exact ⟨rfl, by decide +kernel⟩) dX9_nextNumber_2 (fun M22 hM23 => ?_)
  exact key (m - s) s M22 (by omega) (Nat.le_refl _) rfl (rd_n hM23 (by omega) h3) ((rd_s hM23).trans (by rw [Nat.sub_self]; rfl)) (fun a k z => rd_n hM23 (by omega) rfl)
set_option maxHeartbeats 4000000 in
set_option maxRecDepth 100000 in
theorem kc_next {m i : Nat} (hb : ∀ i, M (x + 3) i = b i) (hm : M (x + 2) 1 = nI m) (h160 : m ≤ 160) (hi : i ≤ m) (h3 : M (x + 2) 3 = nI i) (hC : CWT x S P) (hX : HSC x sc) : KK G sc yX9_next cX9_next 2 none 8 0 0 [.ref (x + 2)] (n, S, M, L, P) (fun v μ => v = none ∧ ∃ M', μ = (n, S, M', L, P) ∧ TKC x b m i M' ∧ ∀ a k, ¬ TkD x a k → M' a k = M a k) := by
  have tail : ∀ (e : Nat) (Mx : Nat → Nat → Int32), e ≤ m → skB b m i = e → Mx (x + 2) 3 = nI e → (∀ a k, ¬ (a = x + 2 ∧ k = 3) → Mx a k = M a k) → JJ G sc yX9_next cX9_next 2 none 8 0 0 (fun v μ => v = none ∧ ∃ M', μ = (n, S, M', L, P) ∧ TKC x b m i M' ∧ ∀ a k, ¬ TkD x a k → M' a k = M a k) 50 [(0, .ref (x + 2))] [] (n, S, Mx, L, P) := by
    intro e Mx hem hsk g3 hf
    have g1 : Mx (x + 2) 1 = nI m := (hf _ _ (by omega)).trans hm
    have hbx : ∀ i, Mx (x + 3) i = b i := fun i => (hf _ _ (by omega)).trans (hb i)
    refine JJ_aload_n dX9_next_50 rfl rfl ?_
    refine JJ_aload_n dX9_next_51 rfl rfl ?_
    refine JJ_geti (v := nI e) (cis := [9]) (k := 3) fa_X9_23 (by decide) (congrArg Prod.fst (hC.sh (t := 2) (k := 10) (m := 0) (by decide))) rfl (hX.1 _ _ (by omega) (by omega) (by omega)) g3 dX9_next_52 ?_
    refine JJ_puti (cis := [9]) (k := 4) fa_X9_26 (by decide) (congrArg Prod.fst (hC.sh (t := 2) (k := 10) (m := 0) (by decide))) rfl (fun r hr => by cases hr; exact ⟨rfl, by decide +kernel⟩) dX9_next_55 (fun M1 hM2 => ?_)
    refine JJ_aload_n dX9_next_58 rfl rfl ?_
    refine JJ_aload_n dX9_next_59 rfl rfl ?_
    refine JJ_geti (v := nI e) (cis := [9]) (k := 3) fa_X9_23 (by decide) (congrArg Prod.fst (hC.sh (t := 2) (k := 10) (m := 0) (by decide))) rfl (hX.1 _ _ (by omega) (by omega) (by omega)) (rd_n hM2 (by omega) g3) dX9_next_60 ?_
    obtain ⟨lt, hlt⟩ : ∃ lt, (if e < m then M1 (x + 3) e else 0) = lt := ⟨_, rfl⟩
    have hle : e < m → lt = b e := fun z => hlt.symm.trans ((if_pos z).trans (rd_n hM2 (by omega) (hbx e)))
    refine JJ_callV (rest := []) (congrArg Prod.fst (hC.sh (t := 2) (k := 10) (m := 0) (by decide))) rfl rfl (kc_letterAt (i := e) (rd_n hM2 (by omega) g1) (by omega) (by omega) hC hX) (by omega) mi_X9_letterAt lk_X9_96 rfl (Nat.le_of_ble_eq_true rfl) rfl rfl dX9_next_63 ?_
    intro v3 μ4 h5
    obtain ⟨rfl, rfl⟩ := h5
    refine JJ_r1 ?_
    refine JJ_eqi (x2 := lt) hlt ?_
    refine JJ_istore_n (lv' := [(1, .int lt), (0, .ref (x + 2))]) dX9_next_66 rfl (by decide) rfl ?_
    refine JJ_aload_n dX9_next_67 rfl rfl ?_
    refine JJ_geti (v := nI e) (cis := [9]) (k := 3) fa_X9_23 (by decide) (congrArg Prod.fst (hC.sh (t := 2) (k := 10) (m := 0) (by decide))) rfl (hX.1 _ _ (by omega) (by omega) (by omega)) (rd_n hM2 (by omega) g3) dX9_next_68 ?_
    refine JJ_aload_n dX9_next_71 rfl rfl ?_
    refine JJ_geti (v := nI m) (cis := [9]) (k := 1) fa_X9_15 (by decide) (congrArg Prod.fst (hC.sh (t := 2) (k := 10) (m := 0) (by decide))) rfl (hX.1 _ _ (by omega) (by omega) (by omega)) (rd_n hM2 (by omega) g1) dX9_next_72 ?_
    refine JJ_icmp_lt (tgt := 86) dX9_next_75 (by decide) (fun c6 => ?_) (fun c6 => ?_)
    · skip
      refine JJ_iload_n dX9_next_86 rfl rfl ?_
      refine JJ_callS (rest := []) (kc_isLetter) (by omega) mi_X9_isLetter lk_X9_100 rfl (Nat.le_of_ble_eq_true rfl) rfl rfl dX9_next_87 ?_
      intro v7 μ8 h9
      obtain ⟨rfl, rfl⟩ := h9
      refine JJ_r1 ?_
      refine JJ_if_eq (tgt := 100) dX9_next_90 (by decide) (fun c10 => ?_) (fun c10 => ?_)
      · skip
        refine JJ_iload_n dX9_next_100 rfl rfl ?_
        refine JJ_callS (rest := []) (kc_isDigit) (by omega) mi_X9_isDigit lk_X9_106 rfl (Nat.le_of_ble_eq_true rfl) rfl rfl dX9_next_101 ?_
        intro v11 μ12 h13
        obtain ⟨rfl, rfl⟩ := h13
        refine JJ_r1 ?_
        refine JJ_if_eq (tgt := 114) dX9_next_104 (by decide) (fun c14 => ?_) (fun c14 => ?_)
        · skip
          refine JJ_aload_n dX9_next_114 rfl rfl ?_
          refine JJ_iload_n dX9_next_115 rfl rfl ?_
          refine JJ_callS (rest := [.ref (x + 2)]) (kc_isSign) (by omega) mi_X9_isSign lk_X9_112 rfl (Nat.le_of_ble_eq_true rfl) rfl rfl dX9_next_116 ?_
          intro v15 μ16 h17
          obtain ⟨rfl, rfl⟩ := h17
          refine JJ_r1 ?_
          refine JJ_if_eq (tgt := 126) dX9_next_119 (by decide) (fun c18 => ?_) (fun c18 => ?_)
          · skip
            refine JJ_bipush (v := 9) dX9_next_126 rfl ?_
            refine JJ_puti (cis := [9]) (k := 5) fa_X9_29 (by decide) (congrArg Prod.fst (hC.sh (t := 2) (k := 10) (m := 0) (by decide))) rfl (fun r hr => by cases hr; exact ⟨rfl, by decide +kernel⟩) dX9_next_128 (fun M19 hM20 => ?_)
            refine JJ_aload_n dX9_next_131 rfl rfl ?_
            refine JJ_dup dX9_next_132 rfl ?_
            refine JJ_geti (v := nI e) (cis := [9]) (k := 3) fa_X9_23 (by decide) (congrArg Prod.fst (hC.sh (t := 2) (k := 10) (m := 0) (by decide))) rfl (hX.1 _ _ (by omega) (by omega) (by omega)) (rd_n hM20 (by omega) (rd_n hM2 (by omega) g3)) dX9_next_133 ?_
            refine JJ_iconst (v := 1) dX9_next_136 rfl ?_
            refine JJ_iadd dX9_next_137 ?_
            refine JJ_eqi (x2 := nI (e + 1)) (nI_add (e) (1)) ?_
            refine JJ_puti (cis := [9]) (k := 3) fa_X9_23 (by decide) (congrArg Prod.fst (hC.sh (t := 2) (k := 10) (m := 0) (by decide))) rfl (fun r hr => by cases hr; exact ⟨rfl, by decide +kernel⟩) dX9_next_138 (fun M21 hM22 => ?_)
            refine JJ_vret dX9_next_141 rfl ?_
            have hlm : e < m := by
              rcases Nat.lt_or_ge e m with z | z
              · exact z
              · exact absurd c6 (Int32.not_lt.mpr (nI_le z (by omega)))
            have hlb := hle hlm
            subst hlb
            have hL : ¬ isLt (b e) := b2_0.mp c10
            have hD : ¬ isDg (b e) := b2_0.mp c14
            have hS : ¬ isSg (b e) := b2_0.mp c18
            have et : tok b m i = (9, 0, e, e + 1) := by unfold tok; rw [hsk, if_neg (Nat.not_le.mpr hlm), if_neg hL, if_neg hD, if_neg hS]
            refine ⟨rfl, M21, rfl, ?_, fun a k z => rd_n hM22 (by omega) (rd_n hM20 (by omega) (rd_n hM2 (by omega) (hf a k (by omega))))⟩
            unfold TKC
            rw [et]
            exact ⟨rd_n hM22 (by omega) (rd_s hM20), rd_n hM22 (by omega) (rd_n hM20 (by omega) (rd_s hM2)), rd_s hM22, fun z => absurd (show (9 : Int32) = 1 ∨ (9 : Int32) = 2 from z) (by decide)⟩
          · skip
            refine JJ_iload_n dX9_next_122 rfl rfl ?_
            refine JJ_goto (tgt := 128) dX9_next_123 (by decide) ?_
            refine JJ_puti (cis := [9]) (k := 5) fa_X9_29 (by decide) (congrArg Prod.fst (hC.sh (t := 2) (k := 10) (m := 0) (by decide))) rfl (fun r hr => by cases hr; exact ⟨rfl, by decide +kernel⟩) dX9_next_128 (fun M23 hM24 => ?_)
            refine JJ_aload_n dX9_next_131 rfl rfl ?_
            refine JJ_dup dX9_next_132 rfl ?_
            refine JJ_geti (v := nI e) (cis := [9]) (k := 3) fa_X9_23 (by decide) (congrArg Prod.fst (hC.sh (t := 2) (k := 10) (m := 0) (by decide))) rfl (hX.1 _ _ (by omega) (by omega) (by omega)) (rd_n hM24 (by omega) (rd_n hM2 (by omega) g3)) dX9_next_133 ?_
            refine JJ_iconst (v := 1) dX9_next_136 rfl ?_
            refine JJ_iadd dX9_next_137 ?_
            refine JJ_eqi (x2 := nI (e + 1)) (nI_add (e) (1)) ?_
            refine JJ_puti (cis := [9]) (k := 3) fa_X9_23 (by decide) (congrArg Prod.fst (hC.sh (t := 2) (k := 10) (m := 0) (by decide))) rfl (fun r hr => by cases hr; exact ⟨rfl, by decide +kernel⟩) dX9_next_138 (fun M25 hM26 => ?_)
            refine JJ_vret dX9_next_141 rfl ?_
            have hlm : e < m := by
              rcases Nat.lt_or_ge e m with z | z
              · exact z
              · exact absurd c6 (Int32.not_lt.mpr (nI_le z (by omega)))
            have hlb := hle hlm
            subst hlb
            have hL : ¬ isLt (b e) := b2_0.mp c10
            have hD : ¬ isDg (b e) := b2_0.mp c14
            have hS : isSg (b e) := b2_n.mp c18
            have et : tok b m i = (b e, 0, e, e + 1) := by unfold tok; rw [hsk, if_neg (Nat.not_le.mpr hlm), if_neg hL, if_neg hD, if_pos hS]
            refine ⟨rfl, M25, rfl, ?_, fun a k z => rd_n hM26 (by omega) (rd_n hM24 (by omega) (rd_n hM2 (by omega) (hf a k (by omega))))⟩
            unfold TKC
            rw [et]
            refine ⟨rd_n hM26 (by omega) (rd_s hM24), rd_n hM26 (by omega) (rd_n hM24 (by omega) (rd_s hM2)), rd_s hM26, fun z => ?_⟩
            have z : b e = 1 ∨ b e = 2 := z
            rcases hS with y | y | y | y | y | y | y | y <;> (rw [y] at z; exact absurd z (by decide))
        · skip
          refine JJ_aload_n dX9_next_107 rfl rfl ?_
          refine JJ_callV (rest := []) (congrArg Prod.fst (hC.sh (t := 2) (k := 10) (m := 0) (by decide))) rfl rfl (kc_nextNumber (b := b) (m := m) (s := e) (fun i => rd_n hM2 (by omega) (hbx i)) (rd_n hM2 (by omega) g1) h160 (by omega) (rd_n hM2 (by omega) g3) (rd_s hM2) hC hX) (by omega) mi_X9_nextNumber lk_X9_109 rfl (Nat.le_of_ble_eq_true rfl) rfl rfl dX9_next_108 ?_
          intro v27 μ28 h29
          obtain ⟨rfl, My, rfl, y3, y6, y5, hy⟩ := h29
          refine JJ_r0 ?_
          refine JJ_goto (tgt := 141) dX9_next_111 (by decide) ?_
          refine JJ_vret dX9_next_141 rfl ?_
          have hlm : e < m := by
            rcases Nat.lt_or_ge e m with z | z
            · exact z
            · exact absurd c6 (Int32.not_lt.mpr (nI_le z (by omega)))
          have hlb := hle hlm
          subst hlb
          have hL : ¬ isLt (b e) := b2_0.mp c10
          have hD : isDg (b e) := b2_n.mp c14
          refine ⟨rfl, My, rfl, ?_, fun a k z => (hy a k (by omega)).trans (rd_n hM2 (by omega) (hf a k (by omega)))⟩
          have y4 : My (x + 2) 4 = nI e := (hy _ _ (by omega)).trans (rd_s hM2)
          by_cases hw : 4 < skD b m e - e
          · have et : tok b m i = (9, 0, e, skD b m e) := by unfold tok; rw [hsk, if_neg (Nat.not_le.mpr hlm), if_neg hL, if_pos hD, if_pos hw]
            unfold TKC
            rw [et]
            rw [if_pos hw] at y5
            exact ⟨y5, y4, y3, fun z => absurd (show (9 : Int32) = 1 ∨ (9 : Int32) = 2 from z) (by decide)⟩
          · have et : tok b m i = (1, dgs b e (skD b m e - e), e, skD b m e) := by unfold tok; rw [hsk, if_neg (Nat.not_le.mpr hlm), if_neg hL, if_pos hD, if_neg hw]
            unfold TKC
            rw [et]
            rw [if_neg hw] at y5
            exact ⟨y5, y4, y3, fun _ => y6⟩
      · skip
        refine JJ_aload_n dX9_next_93 rfl rfl ?_
        refine JJ_callV (rest := []) (congrArg Prod.fst (hC.sh (t := 2) (k := 10) (m := 0) (by decide))) rfl rfl (kc_nextWord (b := b) (m := m) (s := e) (fun i => rd_n hM2 (by omega) (hbx i)) (rd_n hM2 (by omega) g1) h160 (by omega) (rd_n hM2 (by omega) g3) (rd_s hM2) hC hX) (by omega) mi_X9_nextWord lk_X9_103 rfl (Nat.le_of_ble_eq_true rfl) rfl rfl dX9_next_94 ?_
        intro v30 μ31 h32
        obtain ⟨rfl, My, rfl, y3, y6, y5, hy⟩ := h32
        refine JJ_r0 ?_
        refine JJ_goto (tgt := 141) dX9_next_97 (by decide) ?_
        refine JJ_vret dX9_next_141 rfl ?_
        have hlm : e < m := by
          rcases Nat.lt_or_ge e m with z | z
          · exact z
          · exact absurd c6 (Int32.not_lt.mpr (nI_le z (by omega)))
        have hlb := hle hlm
        subst hlb
        have hL : isLt (b e) := b2_n.mp c10
        refine ⟨rfl, My, rfl, ?_, fun a k z => (hy a k (by omega)).trans (rd_n hM2 (by omega) (hf a k (by omega)))⟩
        have y4 : My (x + 2) 4 = nI e := (hy _ _ (by omega)).trans (rd_s hM2)
        by_cases hw : wname b e (skL b m e) = 0
        · have et : tok b m i = (wkey b e (skL b m e), 0, e, skL b m e) := by unfold tok; rw [hsk, if_neg (Nat.not_le.mpr hlm), if_pos hL, if_pos hw]
          unfold TKC
          rw [et]
          rw [if_pos hw] at y5
          refine ⟨y5, y4, y3, fun z => ?_⟩
          exact absurd z (fun y => y.elim wkey_12.1 wkey_12.2)
        · have et : tok b m i = (2, wname b e (skL b m e), e, skL b m e) := by unfold tok; rw [hsk, if_neg (Nat.not_le.mpr hlm), if_pos hL, if_neg hw]
          unfold TKC
          rw [et]
          rw [if_neg hw] at y5
          exact ⟨y5, y4, y3, fun _ => y6⟩
    · skip
      refine JJ_aload_n dX9_next_78 rfl rfl ?_
      refine JJ_iconst (v := 0) dX9_next_79 rfl ?_
      refine JJ_puti (cis := [9]) (k := 5) fa_X9_29 (by decide) (congrArg Prod.fst (hC.sh (t := 2) (k := 10) (m := 0) (by decide))) rfl (fun r hr => by cases hr; exact ⟨rfl, by decide +kernel⟩) dX9_next_80 (fun M33 hM34 => ?_)
      refine JJ_goto (tgt := 141) dX9_next_83 (by decide) ?_
      refine JJ_vret dX9_next_141 rfl ?_
      have hge : m ≤ e := Nat.le_of_not_lt (fun z => c6 (nI_lt1 z (by omega)))
      have et : tok b m i = (0, 0, e, e) := by unfold tok; rw [hsk, if_pos hge]
      refine ⟨rfl, M33, rfl, ?_, fun a k z => rd_n hM34 (by omega) (rd_n hM2 (by omega) (hf a k (by omega)))⟩
      unfold TKC
      rw [et]
      exact ⟨rd_s hM34, rd_n hM34 (by omega) (rd_s hM2), rd_n hM34 (by omega) (rd_n hM2 (by omega) g3), fun z => absurd (show (0 : Int32) = 1 ∨ (0 : Int32) = 2 from z) (by decide)⟩
  have key : ∀ (d e : Nat) (Mx : Nat → Nat → Int32), e + d = m → skB b m e = skB b m i → Mx (x + 2) 3 = nI e → (∀ a k, ¬ (a = x + 2 ∧ k = 3) → Mx a k = M a k) → JJ G sc yX9_next cX9_next 2 none 8 0 0 (fun v μ => v = none ∧ ∃ M', μ = (n, S, M', L, P) ∧ TKC x b m i M' ∧ ∀ a k, ¬ TkD x a k → M' a k = M a k) 0 [(0, .ref (x + 2))] [] (n, S, Mx, L, P) := by
    intro d
    induction d with
    | zero =>
      intro e Mx hed hsk g3 hf
      have g1 : Mx (x + 2) 1 = nI m := (hf _ _ (by omega)).trans hm
      refine JJ_aload_n dX9_next_0 rfl rfl ?_
      refine JJ_geti (v := nI e) (cis := [9]) (k := 3) fa_X9_23 (by decide) (congrArg Prod.fst (hC.sh (t := 2) (k := 10) (m := 0) (by decide))) rfl (hX.1 _ _ (by omega) (by omega) (by omega)) g3 dX9_next_1 ?_
      refine JJ_aload_n dX9_next_4 rfl rfl ?_
      refine JJ_geti (v := nI m) (cis := [9]) (k := 1) fa_X9_15 (by decide) (congrArg Prod.fst (hC.sh (t := 2) (k := 10) (m := 0) (by decide))) rfl (hX.1 _ _ (by omega) (by omega) (by omega)) g1 dX9_next_5 ?_
      refine JJ_icmp_ge (tgt := 50) dX9_next_8 (by decide) (fun _ => ?_) (fun c35 => absurd (nI_le (by omega) (by omega)) c35)
      refine JJ.pick [0] rfl ?_
      exact tail e Mx (by omega) (hsk.symm.trans (run_end (by omega))) g3 hf
    | succ d ih =>
      intro e Mx hed hsk g3 hf
      have g1 : Mx (x + 2) 1 = nI m := (hf _ _ (by omega)).trans hm
      refine JJ_aload_n dX9_next_0 rfl rfl ?_
      refine JJ_geti (v := nI e) (cis := [9]) (k := 3) fa_X9_23 (by decide) (congrArg Prod.fst (hC.sh (t := 2) (k := 10) (m := 0) (by decide))) rfl (hX.1 _ _ (by omega) (by omega) (by omega)) g3 dX9_next_1 ?_
      refine JJ_aload_n dX9_next_4 rfl rfl ?_
      refine JJ_geti (v := nI m) (cis := [9]) (k := 1) fa_X9_15 (by decide) (congrArg Prod.fst (hC.sh (t := 2) (k := 10) (m := 0) (by decide))) rfl (hX.1 _ _ (by omega) (by omega) (by omega)) g1 dX9_next_5 ?_
      refine JJ_icmp_ge (tgt := 50) dX9_next_8 (by decide) (fun c36 => absurd c36 (nI_ge (by omega) (by omega))) (fun _ => ?_)
      refine JJ_aload_n dX9_next_11 rfl rfl ?_
      refine JJ_aload_n dX9_next_12 rfl rfl ?_
      refine JJ_geti (v := nI e) (cis := [9]) (k := 3) fa_X9_23 (by decide) (congrArg Prod.fst (hC.sh (t := 2) (k := 10) (m := 0) (by decide))) rfl (hX.1 _ _ (by omega) (by omega) (by omega)) g3 dX9_next_13 ?_
      refine JJ_callV (rest := []) (congrArg Prod.fst (hC.sh (t := 2) (k := 10) (m := 0) (by decide))) rfl rfl (kc_letterAt (i := e) g1 (by omega) (by omega) hC hX) (by omega) mi_X9_letterAt lk_X9_96 rfl (Nat.le_of_ble_eq_true rfl) rfl rfl dX9_next_16 ?_
      intro v37 μ38 h39
      obtain ⟨rfl, rfl⟩ := h39
      refine JJ_r1 ?_
      refine JJ_eqi (x2 := b e) (by rw [if_pos (by omega)]; exact (hf _ _ (by omega)).trans (hb _)) ?_
      refine JJ_bipush (v := 32) dX9_next_19 rfl ?_
      refine JJ_icmp_eq (tgt := 37) dX9_next_21 (by decide) (fun c40 => ?_) (fun c40 => ?_)
      · skip
        refine JJ_aload_n dX9_next_37 rfl rfl ?_
        refine JJ_dup dX9_next_38 rfl ?_
        refine JJ_geti (v := nI e) (cis := [9]) (k := 3) fa_X9_23 (by decide) (congrArg Prod.fst (hC.sh (t := 2) (k := 10) (m := 0) (by decide))) rfl (hX.1 _ _ (by omega) (by omega) (by omega)) g3 dX9_next_39 ?_
        refine JJ_iconst (v := 1) dX9_next_42 rfl ?_
        refine JJ_iadd dX9_next_43 ?_
        refine JJ_eqi (x2 := nI (e + 1)) (nI_add (e) (1)) ?_
        refine JJ_puti (cis := [9]) (k := 3) fa_X9_23 (by decide) (congrArg Prod.fst (hC.sh (t := 2) (k := 10) (m := 0) (by decide))) rfl (fun r hr => by cases hr; exact ⟨rfl, by decide +kernel⟩) dX9_next_44 (fun M41 hM42 => ?_)
        refine JJ_goto (tgt := 0) dX9_next_47 (by decide) ?_
        refine JJ.pick [0] rfl ?_
        exact ih (e + 1) M41 (by omega) ((run_y (p := isBl) (by rw [bt_in (by omega)]; exact Or.inl c40) (by omega)).symm.trans hsk) (rd_s hM42) (fun a k z => rd_n hM42 (by omega) (hf a k z))
      · skip
        refine JJ_aload_n dX9_next_24 rfl rfl ?_
        refine JJ_aload_n dX9_next_25 rfl rfl ?_
        refine JJ_geti (v := nI e) (cis := [9]) (k := 3) fa_X9_23 (by decide) (congrArg Prod.fst (hC.sh (t := 2) (k := 10) (m := 0) (by decide))) rfl (hX.1 _ _ (by omega) (by omega) (by omega)) g3 dX9_next_26 ?_
        refine JJ_callV (rest := []) (congrArg Prod.fst (hC.sh (t := 2) (k := 10) (m := 0) (by decide))) rfl rfl (kc_letterAt (i := e) g1 (by omega) (by omega) hC hX) (by omega) mi_X9_letterAt lk_X9_96 rfl (Nat.le_of_ble_eq_true rfl) rfl rfl dX9_next_29 ?_
        intro v43 μ44 h45
        obtain ⟨rfl, rfl⟩ := h45
        refine JJ_r1 ?_
        refine JJ_eqi (x2 := b e) (by rw [if_pos (by omega)]; exact (hf _ _ (by omega)).trans (hb _)) ?_
        refine JJ_bipush (v := 10) dX9_next_32 rfl ?_
        refine JJ_icmp_ne (tgt := 50) dX9_next_34 (by decide) (fun c46 => ?_) (fun c46 => ?_)
        · skip
          refine JJ.pick [0] rfl ?_
          exact tail e Mx (by omega) (hsk.symm.trans (run_n (by rw [bt_in (by omega)]; exact fun z => z.elim c40 c46))) g3 hf
        · skip
          refine JJ_aload_n dX9_next_37 rfl rfl ?_
          refine JJ_dup dX9_next_38 rfl ?_
          refine JJ_geti (v := nI e) (cis := [9]) (k := 3) fa_X9_23 (by decide) (congrArg Prod.fst (hC.sh (t := 2) (k := 10) (m := 0) (by decide))) rfl (hX.1 _ _ (by omega) (by omega) (by omega)) g3 dX9_next_39 ?_
          refine JJ_iconst (v := 1) dX9_next_42 rfl ?_
          refine JJ_iadd dX9_next_43 ?_
          refine JJ_eqi (x2 := nI (e + 1)) (nI_add (e) (1)) ?_
          refine JJ_puti (cis := [9]) (k := 3) fa_X9_23 (by decide) (congrArg Prod.fst (hC.sh (t := 2) (k := 10) (m := 0) (by decide))) rfl (fun r hr => by cases hr; exact ⟨rfl, by decide +kernel⟩) dX9_next_44 (fun M47 hM48 => ?_)
          refine JJ_goto (tgt := 0) dX9_next_47 (by decide) ?_
          refine JJ.pick [0] rfl ?_
          exact ih (e + 1) M47 (by omega) ((run_y (p := isBl) (by rw [bt_in (by omega)]; exact Or.inr c46) (by omega)).symm.trans hsk) (rd_s hM48) (fun a k z => rd_n hM48 (by omega) (hf a k z))
  exact KK_of2 [(0, .ref (x + 2))] (by decide +kernel) (Nat.le_of_ble_eq_true rfl) rfl (key (m - i) i M (by omega) rfl h3 (fun _ _ _ => rfl))
end C29
