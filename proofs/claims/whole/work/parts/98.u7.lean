section C37
variable {G : Gx} {sc : Nat → Nat → Prop} {n : Nat} {S : Nat → Nat × Nat} {M : Nat → Nat → Int32} {L : Nat → Nat → Int64} {P : Nat → Nat → Option Nat} {x : Nat} {A B : Abs} {b : Nat → Int32} {r m : Nat}

/-- what the reading of a text changes -/
def RCE (x r a k : Nat) : Prop := RCH x r a k ∨ a = x + 10 + 5 * r + 4
/-- what a reading answers and leaves -/
def RDO (x r : Nat) (b : Nat → Int32) (m : Nat) (w : Int32) (M : Nat → Nat → Int32) : Prop := match gText b m with
  | .inl k => w = nI k ∧ k ≤ m
  | .inr (_, d0, d1, d2) => w = -1 ∧ TXC (x + 10 + 5 * r) M (zEf d0 d1 d2)
theorem RBAD.le {k : Nat} (h : RBAD x r b m k P M) : k ≤ m := by
  obtain ⟨-, ⟨q, -, -, h⟩, -⟩ := h
  exact h
theorem RDO.bad {k : Nat} (e : gText b m = .inl k) (hk : k ≤ m) : RDO x r b m (nI k) M := by
  unfold RDO
  rw [e]
  exact ⟨rfl, hk⟩
theorem RDO.ok {cs : List Int32 × List Int32 × List Int32} {d0 d1 d2 : Nms → Int32} (e : gText b m = .inr (cs, d0, d1, d2)) (h : TXC (x + 10 + 5 * r) M (zEf d0 d1 d2)) : RDO x r b m (-1) M := by
  unfold RDO
  rw [e]
  exact ⟨rfl, h⟩
abbrev GTY : Type := Nat ⊕ ((List Int32 × List Int32 × List Int32) × (Nms → Int32) × (Nms → Int32) × (Nms → Int32))
section GTX
variable {c0 c1 c2 : List Int32} {d0 d1 d2 : Nms → Int32} {i0 i1 i2 k : Nat}
theorem gt0 (e : gPart b m 3 0 = .inl k) : gText b m = .inl k := by
  unfold gText
  rw [e]
theorem gt1 (e0 : gPart b m 3 0 = .inr (c0, d0, i0)) (e : gPart b m 4 i0 = .inl k) : gText b m = .inl k := by
  unfold gText
  rw [e0]
  show (match gPart b m 4 i0 with
    | .inl k => (.inl k : GTY)
    | .inr (c1, d1, i1) => match gPart b m 5 i1 with
      | .inl k => (.inl k : GTY)
      | .inr (c2, d2, i2) => if (tok b m i2).1 = 0 then (.inr ((c0, c1, c2), d0, d1, d2) : GTY) else .inl (tok b m i2).2.2.1) = _
  rw [e]
theorem gt2' (e0 : gPart b m 3 0 = .inr (c0, d0, i0)) (e1 : gPart b m 4 i0 = .inr (c1, d1, i1)) : gText b m = (match gPart b m 5 i1 with
      | .inl k => .inl k
      | .inr (c2, d2, i2) => if (tok b m i2).1 = 0 then .inr ((c0, c1, c2), d0, d1, d2) else .inl (tok b m i2).2.2.1) := by
  unfold gText
  rw [e0]
  show (match gPart b m 4 i0 with
    | .inl k => (.inl k : GTY)
    | .inr (c1, d1, i1) => match gPart b m 5 i1 with
      | .inl k => (.inl k : GTY)
      | .inr (c2, d2, i2) => if (tok b m i2).1 = 0 then (.inr ((c0, c1, c2), d0, d1, d2) : GTY) else .inl (tok b m i2).2.2.1) = _
  rw [e1]
theorem gt2 (e0 : gPart b m 3 0 = .inr (c0, d0, i0)) (e1 : gPart b m 4 i0 = .inr (c1, d1, i1)) (e : gPart b m 5 i1 = .inl k) : gText b m = .inl k := by
  rw [gt2' e0 e1, e]
theorem gt3 (e0 : gPart b m 3 0 = .inr (c0, d0, i0)) (e1 : gPart b m 4 i0 = .inr (c1, d1, i1)) (e : gPart b m 5 i1 = .inr (c2, d2, i2)) : gText b m = (if (tok b m i2).1 = 0 then .inr ((c0, c1, c2), d0, d1, d2) else .inl (tok b m i2).2.2.1) := by
  rw [gt2' e0 e1, e]
end GTX
theorem RDB.en {p : Nat} {v : Int32} (h : RDB x r b m P M) : RDB x r b m P (up2 M (x + 10 + 5 * r + 4) p v) :=
  have hr := h.1
  ⟨h.1, h.2.1, (up2_n (by omega)).trans h.2.2.1, fun i => (up2_n (by omega)).trans (h.2.2.2.1 i), h.2.2.2.2⟩
theorem RBAD.en {p k : Nat} {v : Int32} (h : RBAD x r b m k P M) : RBAD x r b m k P (up2 M (x + 10 + 5 * r + 4) p v) := by
  obtain ⟨h1, ⟨q, h2, h3⟩, h4, h5, h6⟩ := h
  have hr := h1.1
  exact ⟨h1.en, ⟨q, h2, (up2_n (by omega)).trans h3.1, h3.2⟩, (up2_n (by omega)).trans h4, (up2_n (by omega)).trans h5, (up2_n (by omega)).trans h6⟩
theorem ROK.en {p i : Nat} {cs : List Int32} {v : Int32} (h : ROK x r b m cs i P M) : ROK x r b m cs i P (up2 M (x + 10 + 5 * r + 4) p v) := by
  obtain ⟨q1, q2, q3, q4, q5, q6, t5, t4, t3, t6⟩ := h
  have hr := q1.1
  exact ⟨q1.en, q2, q3, (up2_n (by omega)).trans q4, fun k hk => (up2_n (by omega)).trans (q5 k hk), (up2_n (by omega)).trans q6, (up2_n (by omega)).trans t5, (up2_n (by omega)).trans t4, (up2_n (by omega)).trans t3, fun z => (up2_n (by omega)).trans (t6 z)⟩
set_option maxHeartbeats 4000000 in
set_option maxRecDepth 100000 in
theorem rd_bad {k : Nat} {M0 : Nat → Nat → Int32} {Φ : Option Value → Mem → Prop} (hC : CWT x S P) (hX : HSC x sc) (hΦ : ∀ M', (∀ a j, ¬ RCE x r a j → M' a j = M0 a j) → Φ (some (.int (nI k))) (n, S, M', L, P)) : ∀ (d p : Nat) (M : Nat → Nat → Int32), p + d = 3 → RBAD x r b m k P M → (∀ a j, ¬ RCE x r a j → M a j = M0 a j) → JJ G sc yX9_readInto cX9_readInto 3 (some .int) 56 0 0 Φ 25 [(2, .int (nI p)), (1, .ref (x + 10 + 5 * r)), (0, .ref (x + 2))] [] (n, S, M, L, P) := by
  intro d
  induction d with
  | zero =>
    intro p M hp h hf
    have hr := h.1.1
    obtain rfl : p = 3 := by omega
    refine JJ_iload_n dX9_readInto_25 rfl rfl ?_
    refine JJ_iconst (v := 2) dX9_readInto_26 rfl ?_
    refine JJ_icmp_gt (tgt := 59) dX9_readInto_27 (by decide) (fun _ => ?_) (fun c1 => absurd (by decide) c1)
    refine JJ_aload_n dX9_readInto_59 rfl rfl ?_
    refine JJ_geti (v := 9) (cis := [9]) (k := 5) fa_X9_29 (by decide) (congrArg Prod.fst (hC.sh (t := 2) (k := 10) (m := 0) (by decide))) rfl (hX.1 _ _ (by omega) (by omega) (by omega)) h.2.2.1 dX9_readInto_60 ?_
    refine JJ_if_eq (tgt := 70) dX9_readInto_63 (by decide) (fun c2 => absurd c2 (by decide)) (fun _ => ?_)
    refine JJ_aload_n dX9_readInto_66 rfl rfl ?_
    refine JJ_callV (rest := []) (congrArg Prod.fst (hC.sh (t := 2) (k := 10) (m := 0) (by decide))) rfl rfl (kc_failB h hC hX) (by omega) mi_X9_fail lk_X9_70 rfl (Nat.le_of_ble_eq_true rfl) rfl rfl dX9_readInto_67 ?_
    intro v3 μ4 h5
    obtain ⟨rfl, Mb, rfl, hb, hkb⟩ := h5
    refine JJ_r0 ?_
    refine JJ_aload_n dX9_readInto_70 rfl rfl ?_
    refine JJ_geti (v := (nI k)) (cis := [9]) (k := 7) fa_X9_35 (by decide) (congrArg Prod.fst (hC.sh (t := 2) (k := 10) (m := 0) (by decide))) rfl (hX.1 _ _ (by omega) (by omega) (by omega)) hb.2.2.2.2 dX9_readInto_71 ?_
    refine JJ_iret dX9_readInto_74 rfl ?_
    exact hΦ Mb (fun a j z => (hkb a j (fun q => z (Or.inl q))).trans (hf a j z))
  | succ d ih =>
    intro p M hp h hf
    have hr := h.1.1
    have hp3 : p < 3 := by omega
    refine JJ_iload_n dX9_readInto_25 rfl rfl ?_
    refine JJ_iconst (v := 2) dX9_readInto_26 rfl ?_
    refine JJ_icmp_gt (tgt := 59) dX9_readInto_27 (by decide) (fun c6 => absurd c6 (i_nlt (nI_le (b := 2) (by omega) (by omega)))) (fun _ => ?_)
    refine JJ_aload_n dX9_readInto_30 rfl rfl ?_
    refine JJ_iconst (v := 3) dX9_readInto_31 rfl ?_
    refine JJ_iload_n dX9_readInto_32 rfl rfl ?_
    refine JJ_iadd dX9_readInto_33 ?_
    refine JJ_eqi (x2 := nI (3 + p)) (nI_add (3) (p)) ?_
    refine JJ_callV (rest := []) (congrArg Prod.fst (hC.sh (t := 2) (k := 10) (m := 0) (by decide))) rfl rfl (kc_expectB h (fun e => by have := (nI_eq (a := 9) (b := 3 + p) (by omega) (by omega)).mp e; omega) hC hX) (by omega) mi_X9_expect lk_X9_60 rfl (Nat.le_of_ble_eq_true rfl) rfl rfl dX9_readInto_34 ?_
    intro v7 μ8 h9
    obtain ⟨rfl, Mb, rfl, hb, hkb⟩ := h9
    refine JJ_r0 ?_
    refine JJ_aload_n dX9_readInto_37 rfl rfl ?_
    refine JJ_iconst (v := 0) dX9_readInto_38 rfl ?_
    refine JJ_callV (rest := []) (congrArg Prod.fst (hC.sh (t := 2) (k := 10) (m := 0) (by decide))) rfl rfl (kc_readEitherB hb hC hX) (by omega) mi_X9_readEither lk_X9_64 rfl (Nat.le_of_ble_eq_true rfl) rfl rfl dX9_readInto_39 ?_
    intro v10 μ11 h12
    obtain ⟨rfl, Mc, rfl, hc, hkc⟩ := h12
    refine JJ_r0 ?_
    refine JJ_aload_n dX9_readInto_42 rfl rfl ?_
    refine JJ_bipush (v := 59) dX9_readInto_43 rfl ?_
    refine JJ_callV (rest := []) (congrArg Prod.fst (hC.sh (t := 2) (k := 10) (m := 0) (by decide))) rfl rfl (kc_expectB hc (by decide) hC hX) (by omega) mi_X9_expect lk_X9_60 rfl (Nat.le_of_ble_eq_true rfl) rfl rfl dX9_readInto_45 ?_
    intro v13 μ14 h15
    obtain ⟨rfl, Md, rfl, hd, hkd⟩ := h15
    refine JJ_r0 ?_
    refine JJ_aload_n dX9_readInto_48 rfl rfl ?_
    refine JJ_iload_n dX9_readInto_49 rfl rfl ?_
    obtain ⟨q, hq1, hq2⟩ := hd.2.1
    refine JJ_callV (rest := []) (congrArg Prod.fst (hC.2.2.1 r hr).1) rfl rfl (kc_tend hr hp3 hq2.1 hC hX) (by omega) mi_X10_endPart lk_X9_67 rfl (Nat.le_of_ble_eq_true rfl) rfl rfl dX9_readInto_50 ?_
    intro v16 μ17 h18
    obtain ⟨rfl, rfl⟩ := h18
    refine JJ_r0 ?_
    refine JJ_iinc (v := nI (p + 1)) (lv' := [(2, .int (nI (p + 1))), (1, .ref (x + 10 + 5 * r)), (0, .ref (x + 2))]) dX9_readInto_53 rfl (nI_add (p) 1) (by decide) rfl ?_
    refine JJ_goto (tgt := 25) dX9_readInto_56 (by decide) ?_
    refine JJ.pick [0, 1, 2] rfl ?_
    exact ih (p + 1) _ (by omega) hd.en (fun a j z => (up2_n (fun e => z (Or.inr e.1))).trans ((hkd a j (fun q => z (Or.inl q))).trans ((hkc a j (fun q => z (Or.inl q))).trans ((hkb a j (fun q => z (Or.inl q))).trans (hf a j z)))))
set_option maxHeartbeats 4000000 in
set_option maxRecDepth 100000 in
theorem rd_part {p i : Nat} {cs : List Int32} {Φ : Option Value → Mem → Prop} (hp3 : p < 3) (h : ROK x r b m cs i P M) (hC : CWT x S P) (hX : HSC x sc) (kb : ∀ k M', gPart b m (nI (3 + p)) i = .inl k → RBAD x r b m k P M' → (∀ a j, ¬ RCE x r a j → M' a j = M a j) → JJ G sc yX9_readInto cX9_readInto 3 (some .int) 56 0 0 Φ 25 [(2, .int (nI (p + 1))), (1, .ref (x + 10 + 5 * r)), (0, .ref (x + 2))] [] (n, S, M', L, P)) (kg : ∀ c d0 j M', gPart b m (nI (3 + p)) i = .inr (c, d0, j) → ROK x r b m (cs ++ c) j P M' → M' (x + 10 + 5 * r + 4) p = nI (cs ++ c).length → (∀ a j, ¬ RCH x r a j → ¬ (a = x + 10 + 5 * r + 4 ∧ j = p) → M' a j = M a j) → JJ G sc yX9_readInto cX9_readInto 3 (some .int) 56 0 0 Φ 25 [(2, .int (nI (p + 1))), (1, .ref (x + 10 + 5 * r)), (0, .ref (x + 2))] [] (n, S, M', L, P)) : JJ G sc yX9_readInto cX9_readInto 3 (some .int) 56 0 0 Φ 25 [(2, .int (nI p)), (1, .ref (x + 10 + 5 * r)), (0, .ref (x + 2))] [] (n, S, M, L, P) := by
  have hr := h.1.1
  have hlv : RS G sc n S x r b m 55 yX9_readEither cX9_readEither 3 0 (lev b m 5).2.2 := (kc_lev 5 (by decide)).2.2
  refine JJ_iload_n dX9_readInto_25 rfl rfl ?_
  refine JJ_iconst (v := 2) dX9_readInto_26 rfl ?_
  refine JJ_icmp_gt (tgt := 59) dX9_readInto_27 (by decide) (fun c1 => absurd c1 (i_nlt (nI_le (b := 2) (by omega) (by omega)))) (fun _ => ?_)
  refine JJ_aload_n dX9_readInto_30 rfl rfl ?_
  refine JJ_iconst (v := 3) dX9_readInto_31 rfl ?_
  refine JJ_iload_n dX9_readInto_32 rfl rfl ?_
  refine JJ_iadd dX9_readInto_33 ?_
  refine JJ_eqi (x2 := nI (3 + p)) (nI_add (3) (p)) ?_
  by_cases h1 : (tok b m i).1 = nI (3 + p)
  · skip
    refine JJ_callV (rest := []) (congrArg Prod.fst (hC.sh (t := 2) (k := 10) (m := 0) (by decide))) rfl rfl (kc_expectY h h1 (fun e => by have := (nI_eq (a := 3 + p) (b := 0) (by omega) (by omega)).mp e; omega) hC hX) (by omega) mi_X9_expect lk_X9_60 rfl (Nat.le_of_ble_eq_true rfl) rfl rfl dX9_readInto_34 ?_
    intro v2 μ3 h4
    obtain ⟨rfl, Mb, rfl, hb, hkb⟩ := h4
    refine JJ_r0 ?_
    refine JJ_aload_n dX9_readInto_37 rfl rfl ?_
    refine JJ_iconst (v := 0) dX9_readInto_38 rfl ?_
    refine JJ_callV (rest := []) (congrArg Prod.fst (hC.sh (t := 2) (k := 10) (m := 0) (by decide))) rfl rfl (hlv _ _ _ _ _ hb hC hX) (by omega) mi_X9_readEither lk_X9_64 rfl (Nat.le_of_ble_eq_true rfl) rfl rfl dX9_readInto_39 ?_
    intro v5 μ6 h7
    obtain ⟨rfl, Mc, rfl, hpo, hkc⟩ := h7
    refine JJ_r0 ?_
    rcases hq : (lev b m 5).2.2 (tok b m i).2.2.2 with q | ⟨c, d0, j⟩
    · skip
      rw [hq] at hpo
      have hpo : RBAD x r b m q P Mc := hpo
      have eg : gPart b m (nI (3 + p)) i = .inl q := (if_pos h1).trans (by rw [hq]; rfl)
      refine JJ_aload_n dX9_readInto_42 rfl rfl ?_
      refine JJ_bipush (v := 59) dX9_readInto_43 rfl ?_
      refine JJ_callV (rest := []) (congrArg Prod.fst (hC.sh (t := 2) (k := 10) (m := 0) (by decide))) rfl rfl (kc_expectB hpo (by decide) hC hX) (by omega) mi_X9_expect lk_X9_60 rfl (Nat.le_of_ble_eq_true rfl) rfl rfl dX9_readInto_45 ?_
      intro v8 μ9 h10
      obtain ⟨rfl, Md, rfl, hd, hkd⟩ := h10
      refine JJ_r0 ?_
      refine JJ_aload_n dX9_readInto_48 rfl rfl ?_
      refine JJ_iload_n dX9_readInto_49 rfl rfl ?_
      obtain ⟨q, hq1, hq2⟩ := hd.2.1
      refine JJ_callV (rest := []) (congrArg Prod.fst (hC.2.2.1 r hr).1) rfl rfl (kc_tend hr hp3 hq2.1 hC hX) (by omega) mi_X10_endPart lk_X9_67 rfl (Nat.le_of_ble_eq_true rfl) rfl rfl dX9_readInto_50 ?_
      intro v11 μ12 h13
      obtain ⟨rfl, rfl⟩ := h13
      refine JJ_r0 ?_
      refine JJ_iinc (v := nI (p + 1)) (lv' := [(2, .int (nI (p + 1))), (1, .ref (x + 10 + 5 * r)), (0, .ref (x + 2))]) dX9_readInto_53 rfl (nI_add (p) 1) (by decide) rfl ?_
      refine JJ_goto (tgt := 25) dX9_readInto_56 (by decide) ?_
      refine JJ.pick [0, 1, 2] rfl ?_
      exact kb _ _ eg hd.en (fun a j z => (up2_n (fun e => z (Or.inr e.1))).trans ((hkd a j (fun q => z (Or.inl q))).trans ((hkc a j (fun q => z (Or.inl q))).trans (hkb a j (fun q => z (Or.inl q))))))
    · skip
      rw [hq] at hpo
      have hpo : ROK x r b m (cs ++ c) j P Mc := hpo
      by_cases h59 : (tok b m j).1 = 59
      · skip
        have eg : gPart b m (nI (3 + p)) i = .inr (c, d0, (tok b m j).2.2.2) := (if_pos h1).trans (by rw [hq]; exact if_pos h59)
        refine JJ_aload_n dX9_readInto_42 rfl rfl ?_
        refine JJ_bipush (v := 59) dX9_readInto_43 rfl ?_
        refine JJ_callV (rest := []) (congrArg Prod.fst (hC.sh (t := 2) (k := 10) (m := 0) (by decide))) rfl rfl (kc_expectY hpo h59 (by decide) hC hX) (by omega) mi_X9_expect lk_X9_60 rfl (Nat.le_of_ble_eq_true rfl) rfl rfl dX9_readInto_45 ?_
        intro v14 μ15 h16
        obtain ⟨rfl, Md, rfl, hd, hkd⟩ := h16
        refine JJ_r0 ?_
        refine JJ_aload_n dX9_readInto_48 rfl rfl ?_
        refine JJ_iload_n dX9_readInto_49 rfl rfl ?_
        refine JJ_callV (rest := []) (congrArg Prod.fst (hC.2.2.1 r hr).1) rfl rfl (kc_tend hr hp3 hd.2.2.2.1 hC hX) (by omega) mi_X10_endPart lk_X9_67 rfl (Nat.le_of_ble_eq_true rfl) rfl rfl dX9_readInto_50 ?_
        intro v17 μ18 h19
        obtain ⟨rfl, rfl⟩ := h19
        refine JJ_r0 ?_
        refine JJ_iinc (v := nI (p + 1)) (lv' := [(2, .int (nI (p + 1))), (1, .ref (x + 10 + 5 * r)), (0, .ref (x + 2))]) dX9_readInto_53 rfl (nI_add (p) 1) (by decide) rfl ?_
        refine JJ_goto (tgt := 25) dX9_readInto_56 (by decide) ?_
        refine JJ.pick [0, 1, 2] rfl ?_
        exact kg _ _ _ _ eg hd.en up2_s (fun a j z z2 => (up2_n z2).trans ((hkd a j z).trans ((hkc a j z).trans (hkb a j z))))
      · skip
        have eg : gPart b m (nI (3 + p)) i = .inl (tok b m j).2.2.1 := (if_pos h1).trans (by rw [hq]; exact if_neg h59)
        refine JJ_aload_n dX9_readInto_42 rfl rfl ?_
        refine JJ_bipush (v := 59) dX9_readInto_43 rfl ?_
        refine JJ_callV (rest := []) (congrArg Prod.fst (hC.sh (t := 2) (k := 10) (m := 0) (by decide))) rfl rfl (kc_expectN hpo h59 hC hX) (by omega) mi_X9_expect lk_X9_60 rfl (Nat.le_of_ble_eq_true rfl) rfl rfl dX9_readInto_45 ?_
        intro v20 μ21 h22
        obtain ⟨rfl, Md, rfl, hd, hkd⟩ := h22
        refine JJ_r0 ?_
        refine JJ_aload_n dX9_readInto_48 rfl rfl ?_
        refine JJ_iload_n dX9_readInto_49 rfl rfl ?_
        obtain ⟨q, hq1, hq2⟩ := hd.2.1
        refine JJ_callV (rest := []) (congrArg Prod.fst (hC.2.2.1 r hr).1) rfl rfl (kc_tend hr hp3 hq2.1 hC hX) (by omega) mi_X10_endPart lk_X9_67 rfl (Nat.le_of_ble_eq_true rfl) rfl rfl dX9_readInto_50 ?_
        intro v23 μ24 h25
        obtain ⟨rfl, rfl⟩ := h25
        refine JJ_r0 ?_
        refine JJ_iinc (v := nI (p + 1)) (lv' := [(2, .int (nI (p + 1))), (1, .ref (x + 10 + 5 * r)), (0, .ref (x + 2))]) dX9_readInto_53 rfl (nI_add (p) 1) (by decide) rfl ?_
        refine JJ_goto (tgt := 25) dX9_readInto_56 (by decide) ?_
        refine JJ.pick [0, 1, 2] rfl ?_
        exact kb _ _ eg hd.en (fun a j z => (up2_n (fun e => z (Or.inr e.1))).trans ((hkd a j (fun q => z (Or.inl q))).trans ((hkc a j (fun q => z (Or.inl q))).trans (hkb a j (fun q => z (Or.inl q))))))
  · skip
    have eg : gPart b m (nI (3 + p)) i = .inl (tok b m i).2.2.1 := if_neg h1
    refine JJ_callV (rest := []) (congrArg Prod.fst (hC.sh (t := 2) (k := 10) (m := 0) (by decide))) rfl rfl (kc_expectN h h1 hC hX) (by omega) mi_X9_expect lk_X9_60 rfl (Nat.le_of_ble_eq_true rfl) rfl rfl dX9_readInto_34 ?_
    intro v26 μ27 h28
    obtain ⟨rfl, Mb, rfl, hb, hkb⟩ := h28
    refine JJ_r0 ?_
    refine JJ_aload_n dX9_readInto_37 rfl rfl ?_
    refine JJ_iconst (v := 0) dX9_readInto_38 rfl ?_
    refine JJ_callV (rest := []) (congrArg Prod.fst (hC.sh (t := 2) (k := 10) (m := 0) (by decide))) rfl rfl (kc_readEitherB hb hC hX) (by omega) mi_X9_readEither lk_X9_64 rfl (Nat.le_of_ble_eq_true rfl) rfl rfl dX9_readInto_39 ?_
    intro v29 μ30 h31
    obtain ⟨rfl, Mc, rfl, hc, hkc⟩ := h31
    refine JJ_r0 ?_
    refine JJ_aload_n dX9_readInto_42 rfl rfl ?_
    refine JJ_bipush (v := 59) dX9_readInto_43 rfl ?_
    refine JJ_callV (rest := []) (congrArg Prod.fst (hC.sh (t := 2) (k := 10) (m := 0) (by decide))) rfl rfl (kc_expectB hc (by decide) hC hX) (by omega) mi_X9_expect lk_X9_60 rfl (Nat.le_of_ble_eq_true rfl) rfl rfl dX9_readInto_45 ?_
    intro v32 μ33 h34
    obtain ⟨rfl, Md, rfl, hd, hkd⟩ := h34
    refine JJ_r0 ?_
    refine JJ_aload_n dX9_readInto_48 rfl rfl ?_
    refine JJ_iload_n dX9_readInto_49 rfl rfl ?_
    obtain ⟨q, hq1, hq2⟩ := hd.2.1
    refine JJ_callV (rest := []) (congrArg Prod.fst (hC.2.2.1 r hr).1) rfl rfl (kc_tend hr hp3 hq2.1 hC hX) (by omega) mi_X10_endPart lk_X9_67 rfl (Nat.le_of_ble_eq_true rfl) rfl rfl dX9_readInto_50 ?_
    intro v35 μ36 h37
    obtain ⟨rfl, rfl⟩ := h37
    refine JJ_r0 ?_
    refine JJ_iinc (v := nI (p + 1)) (lv' := [(2, .int (nI (p + 1))), (1, .ref (x + 10 + 5 * r)), (0, .ref (x + 2))]) dX9_readInto_53 rfl (nI_add (p) 1) (by decide) rfl ?_
    refine JJ_goto (tgt := 25) dX9_readInto_56 (by decide) ?_
    refine JJ.pick [0, 1, 2] rfl ?_
    exact kb _ _ eg hd.en (fun a j z => (up2_n (fun e => z (Or.inr e.1))).trans ((hkd a j (fun q => z (Or.inl q))).trans ((hkc a j (fun q => z (Or.inl q))).trans (hkb a j (fun q => z (Or.inl q))))))
set_option maxHeartbeats 4000000 in
set_option maxRecDepth 100000 in
theorem kc_readInto (hr : r < 6) (hm : M (x + 2) 1 = nI m) (h160 : m ≤ 160) (hb : ∀ i, M (x + 3) i = b i) (hC : CWT x S P) (hX : HSC x sc) : KK G sc yX9_readInto cX9_readInto 3 (some .int) 56 0 0 [.ref (x + 2), .ref (x + 10 + 5 * r)] (n, S, M, L, P) (fun v μ => ∃ w M', v = some (.int w) ∧ μ = (n, S, M', L, (up2 P (x + 2) 2 (some (x + 10 + 5 * r)))) ∧ RDO x r b m w M' ∧ ∀ a k, ¬ RCE x r a k → M' a k = M a k) := by
  refine KK_of2 [(0, .ref (x + 2)), (1, .ref (x + 10 + 5 * r))] (by decide +kernel) (Nat.le_of_ble_eq_true rfl) rfl ?_
  refine JJ_aload_n dX9_readInto_0 rfl rfl ?_
  refine JJ_aload_n dX9_readInto_1 rfl rfl ?_
  refine JJ_putr (ty := .object "MiddleOfCourt$Text") (cis := [9]) (k := 2) fa_X9_19 (by decide) (congrArg Prod.fst (hC.sh (t := 2) (k := 10) (m := 0) (by decide))) rfl (fun r hr => by cases hr; exact ⟨rfl, by decide +kernel⟩) rfl rfl dX9_readInto_2 (fun P1 hP2 => ?_)
  have hC1 := hC.into hP2
  subst hP2
  refine JJ_aload_n dX9_readInto_5 rfl rfl ?_
  refine JJ_callV (rest := []) (congrArg Prod.fst (hC.2.2.1 r hr).1) rfl rfl (kc_tclear hr hC1 hX) (by omega) mi_X10_clear lk_X9_52 rfl (Nat.le_of_ble_eq_true rfl) rfl rfl dX9_readInto_6 ?_
  intro v3 μ4 h5
  obtain ⟨rfl, rfl⟩ := h5
  refine JJ_r0 ?_
  refine JJ_aload_n dX9_readInto_9 rfl rfl ?_
  refine JJ_iconst (v := 0) dX9_readInto_10 rfl ?_
  refine JJ_puti (cis := [9]) (k := 3) fa_X9_23 (by decide) (congrArg Prod.fst (hC.sh (t := 2) (k := 10) (m := 0) (by decide))) rfl (fun r hr => by cases hr; exact ⟨rfl, by decide +kernel⟩) dX9_readInto_11 (fun M6 hM7 => ?_)
  refine JJ_aload_n dX9_readInto_14 rfl rfl ?_
  refine JJ_iconst (v := (-1)) dX9_readInto_15 rfl ?_
  refine JJ_puti (cis := [9]) (k := 7) fa_X9_35 (by decide) (congrArg Prod.fst (hC.sh (t := 2) (k := 10) (m := 0) (by decide))) rfl (fun r hr => by cases hr; exact ⟨rfl, by decide +kernel⟩) dX9_readInto_16 (fun M8 hM9 => ?_)
  refine JJ_aload_n dX9_readInto_19 rfl rfl ?_
  refine JJ_callV (rest := []) (congrArg Prod.fst (hC.sh (t := 2) (k := 10) (m := 0) (by decide))) rfl rfl (kc_next (b := b) (i := 0) (fun i => (rd_n hM9 (by omega) (rd_n hM7 (by omega) ((up2_n (by omega)).trans (hb i))))) (rd_n hM9 (by omega) (rd_n hM7 (by omega) ((up2_n (by omega)).trans (hm)))) h160 (Nat.zero_le _) (rd_n hM9 (by omega) (rd_s hM7)) hC1 hX) (by omega) mi_X9_next lk_X9_57 rfl (Nat.le_of_ble_eq_true rfl) rfl rfl dX9_readInto_20 ?_
  intro v10 μ11 h12
  obtain ⟨rfl, Mn, rfl, ht, hkn⟩ := h12
  refine JJ_r0 ?_
  refine JJ_iconst (v := 0) dX9_readInto_23 rfl ?_
  refine JJ_istore_n (lv' := [(2, .int 0), (0, .ref (x + 2)), (1, .ref (x + 10 + 5 * r))]) dX9_readInto_24 rfl (by decide) rfl ?_
  refine JJ.pick [0, 2, 1] rfl ?_
  have f0 : ∀ a j, ¬ RCE x r a j → Mn a j = M a j := fun a j z => (hkn a j (fun e => z (Or.inl (Or.inl (by omega))))).trans (rd_n hM9 (fun e => z (Or.inl (Or.inl (by omega)))) (rd_n hM7 (fun e => z (Or.inl (Or.inl (by omega)))) (up2_n (fun e => z (Or.inl (Or.inr (Or.inl e)))))))
  have hN : ROK x r b m [] 0 (up2 P (x + 2) 2 (some (x + 10 + 5 * r))) Mn := ⟨⟨hr, h160, (hkn _ _ (by omega)).trans (rd_n hM9 (by omega) (rd_n hM7 (by omega) ((up2_n (by omega)).trans (hm)))), fun i => (hkn _ _ (by omega)).trans (rd_n hM9 (by omega) (rd_n hM7 (by omega) ((up2_n (by omega)).trans (hb i)))), up2_s⟩, Nat.zero_le _, Nat.zero_le _, (hkn _ _ (by omega)).trans (rd_n hM9 (by omega) (rd_n hM7 (by omega) up2_s)), fun k hk => absurd hk (Nat.not_lt_zero _), (hkn _ _ (by omega)).trans (rd_s hM9), ht⟩
  refine rd_part (p := 0) (by decide) hN hC1 hX (fun k M' e h f => rd_bad (M0 := M) hC1 hX (fun M'' g => ⟨nI k, M'', rfl, rfl, RDO.bad (gt0 e) h.le, g⟩) 2 1 M' rfl h (fun a j z => (f a j z).trans (f0 a j z))) (fun c0 d0 j0 M1 e0 h1 t1 g1 => ?_)
  have f1 : ∀ a j, ¬ RCE x r a j → M1 a j = M a j := fun a j z => (g1 a j (fun q => z (Or.inl q)) (fun q => z (Or.inr q.1))).trans (f0 a j z)
  refine rd_part (p := 1) (by decide) h1 hC1 hX (fun k M' e h f => rd_bad (M0 := M) hC1 hX (fun M'' g => ⟨nI k, M'', rfl, rfl, RDO.bad (gt1 e0 e) h.le, g⟩) 1 2 M' rfl h (fun a j z => (f a j z).trans (f1 a j z))) (fun c1 d1 j1 M2 e1 h2 t2 g2 => ?_)
  have f2 : ∀ a j, ¬ RCE x r a j → M2 a j = M a j := fun a j z => (g2 a j (fun q => z (Or.inl q)) (fun q => z (Or.inr q.1))).trans (f1 a j z)
  refine rd_part (p := 2) (by decide) h2 hC1 hX (fun k M' e h f => rd_bad (M0 := M) hC1 hX (fun M'' g => ⟨nI k, M'', rfl, rfl, RDO.bad (gt2 e0 e1 e) h.le, g⟩) 0 3 M' rfl h (fun a j z => (f a j z).trans (f2 a j z))) (fun c2 d2 j2 M3 e2 h3 t3 g3 => ?_)
  have f3 : ∀ a j, ¬ RCE x r a j → M3 a j = M a j := fun a j z => (g3 a j (fun q => z (Or.inl q)) (fun q => z (Or.inr q.1))).trans (f2 a j z)
  have eg : gText b m = (if (tok b m j2).1 = 0 then .inr ((c0, c1, c2), d0, d1, d2) else .inl (tok b m j2).2.2.1) := gt3 e0 e1 e2
  obtain ⟨x0, y0, z0, v0⟩ := gd_part (b := b) (m := m) (key := 3) (by decide) 0 c0 d0 j0 (Nat.zero_le _) e0
  obtain ⟨x1, y1, z1, v1⟩ := gd_part (b := b) (m := m) (key := 4) (by decide) j0 c1 d1 j1 y0 e1
  obtain ⟨x2, y2, z2, v2⟩ := gd_part (b := b) (m := m) (key := 5) (by decide) j1 c2 d2 j2 y1 e2
  have nr : ∀ q, ¬ RCH x r (x + 10 + 5 * r + 4) q := fun q => by unfold RCH; omega
  have k0 : M3 (x + 10 + 5 * r + 4) 0 = nI c0.length := (g3 _ _ (nr _) (by omega)).trans ((g2 _ _ (nr _) (by omega)).trans t1)
  have k1 : M3 (x + 10 + 5 * r + 4) 1 = nI (c0.length + c1.length) := ((g3 _ _ (nr _) (by omega)).trans t2).trans (congrArg nI (show (c0 ++ c1).length = _ from List.length_append))
  have k2 : M3 (x + 10 + 5 * r + 4) 2 = nI (c0.length + c1.length + c2.length) := t3.trans (congrArg nI (show (c0 ++ c1 ++ c2).length = _ by simp only [List.length_append]))
  have k3 : ∀ i, i < c0.length + c1.length + c2.length → M3 (x + 10 + 5 * r + 1) i = (c0 ++ c1 ++ c2).getD i 0 := fun i hi => h3.2.2.2.2.1 i (show i < (c0 ++ c1 ++ c2).length by simp only [List.length_append]; exact hi)
  have hT : TXC (x + 10 + 5 * r) M3 (zEf d0 d1 d2) := ⟨c0, c1, c2, d0, d1, d2, rfl, v0, v1, v2, by omega, k0, k1, k2, k3⟩
  refine JJ_iload_n dX9_readInto_25 rfl rfl ?_
  refine JJ_iconst (v := 2) dX9_readInto_26 rfl ?_
  refine JJ_icmp_gt (tgt := 59) dX9_readInto_27 (by decide) (fun _ => ?_) (fun c13 => absurd (by decide) c13)
  refine JJ_aload_n dX9_readInto_59 rfl rfl ?_
  refine JJ_geti (v := (tok b m j2).1) (cis := [9]) (k := 5) fa_X9_29 (by decide) (congrArg Prod.fst (hC.sh (t := 2) (k := 10) (m := 0) (by decide))) rfl (hX.1 _ _ (by omega) (by omega) (by omega)) h3.2.2.2.2.2.2.1 dX9_readInto_60 ?_
  refine JJ_if_eq (tgt := 70) dX9_readInto_63 (by decide) (fun c14 => ?_) (fun c14 => ?_)
  · skip
    refine JJ_aload_n dX9_readInto_70 rfl rfl ?_
    refine JJ_geti (v := (-1)) (cis := [9]) (k := 7) fa_X9_35 (by decide) (congrArg Prod.fst (hC.sh (t := 2) (k := 10) (m := 0) (by decide))) rfl (hX.1 _ _ (by omega) (by omega) (by omega)) h3.2.2.2.2.2.1 dX9_readInto_71 ?_
    refine JJ_iret dX9_readInto_74 rfl ?_
    exact ⟨_, M3, rfl, rfl, RDO.ok (eg.trans (if_pos c14)) hT, f3⟩
  · skip
    refine JJ_aload_n dX9_readInto_66 rfl rfl ?_
    refine JJ_callV (rest := []) (congrArg Prod.fst (hC.sh (t := 2) (k := 10) (m := 0) (by decide))) rfl rfl (kc_failG h3 hC1 hX) (by omega) mi_X9_fail lk_X9_70 rfl (Nat.le_of_ble_eq_true rfl) rfl rfl dX9_readInto_67 ?_
    intro v15 μ16 h17
    obtain ⟨rfl, Mb, rfl, hb, hkb⟩ := h17
    refine JJ_r0 ?_
    refine JJ_aload_n dX9_readInto_70 rfl rfl ?_
    refine JJ_geti (v := (nI (tok b m j2).2.2.1)) (cis := [9]) (k := 7) fa_X9_35 (by decide) (congrArg Prod.fst (hC.sh (t := 2) (k := 10) (m := 0) (by decide))) rfl (hX.1 _ _ (by omega) (by omega) (by omega)) hb.2.2.2.2 dX9_readInto_71 ?_
    refine JJ_iret dX9_readInto_74 rfl ?_
    exact ⟨_, Mb, rfl, rfl, RDO.bad (eg.trans (if_neg c14)) hb.le, fun a j z => (hkb a j (fun q => z (Or.inl q))).trans (f3 a j z)⟩
end C37
