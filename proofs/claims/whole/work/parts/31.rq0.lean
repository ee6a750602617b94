theorem lcmp_eq {x y : Int64} : lg_cmp x y = 0 ↔ x = y := by
  unfold lg_cmp
  constructor
  · intro h
    split at h
    · exact absurd h (by decide)
    · split at h
      · assumption
      · exact absurd h (by decide)
  · intro h
    rw [if_neg (by rw [h]; exact Int64.lt_irrefl), if_pos h]
theorem wide_inj {x y : Int32} (h : x.toInt64 = y.toInt64) : x = y := by
  have := congrArg Int64.toInt32 h
  rwa [Int32.toInt32_toInt64, Int32.toInt32_toInt64] at this
section TOK
variable {b : Nat → Int32} {m i : Nat}
theorem tok_end (h : m ≤ skB b m i) : tok b m i = (0, 0, skB b m i, skB b m i) := if_pos h
theorem tok_lt (h : skB b m i < m) (hl : isLt (b (skB b m i))) : tok b m i = (if wname b (skB b m i) (skL b m (skB b m i)) = 0 then (wkey b (skB b m i) (skL b m (skB b m i)), 0, skB b m i, skL b m (skB b m i)) else (2, wname b (skB b m i) (skL b m (skB b m i)), skB b m i, skL b m (skB b m i))) := (if_neg (Nat.not_le.mpr h)).trans (if_pos hl)
theorem lt_dg {c : Int32} (h : isDg c) : ¬ isLt c := fun z => by
  have h1 := (isDg_i.mp h).2
  have h2 := (isLt_i.mp z).1
  omega
theorem sg_lt {c : Int32} (h : isSg c) : ¬ isLt c := by
  rcases h with rfl | rfl | rfl | rfl | rfl | rfl | rfl | rfl <;> decide
theorem sg_dg {c : Int32} (h : isSg c) : ¬ isDg c := by
  rcases h with rfl | rfl | rfl | rfl | rfl | rfl | rfl | rfl <;> decide
theorem tok_dg (h : skB b m i < m) (hd : isDg (b (skB b m i))) : tok b m i = (if 4 < skD b m (skB b m i) - skB b m i then (9, 0, skB b m i, skD b m (skB b m i)) else (1, dgs b (skB b m i) (skD b m (skB b m i) - skB b m i), skB b m i, skD b m (skB b m i))) := (if_neg (Nat.not_le.mpr h)).trans ((if_neg (lt_dg hd)).trans (if_pos hd))
theorem tok_sg (h : skB b m i < m) (hs : isSg (b (skB b m i))) : tok b m i = (b (skB b m i), 0, skB b m i, skB b m i + 1) := (if_neg (Nat.not_le.mpr h)).trans ((if_neg (sg_lt hs)).trans ((if_neg (sg_dg hs)).trans (if_pos hs)))
theorem tok_no (h : skB b m i < m) (h1 : ¬ isLt (b (skB b m i))) (h2 : ¬ isDg (b (skB b m i))) (h3 : ¬ isSg (b (skB b m i))) : tok b m i = (9, 0, skB b m i, skB b m i + 1) := (if_neg (Nat.not_le.mpr h)).trans ((if_neg h1).trans ((if_neg h2).trans (if_neg h3)))
theorem tok_s : (tok b m i).2.2.1 = skB b m i := by
  unfold tok
  split
  · rfl
  · split
    · split <;> rfl
    · split
      · split <;> rfl
      · split <;> rfl
theorem wkey_ns {s e : Nat} {c : Int32} (hc : isSg c) : wkey b s e ≠ c := by
  unfold wkey
  repeat' split
  all_goals (rcases hc with rfl | rfl | rfl | rfl | rfl | rfl | rfl | rfl <;> decide)
theorem num_ns {c : Int32} (hc : isSg c) : c ≠ 0 ∧ c ≠ 1 ∧ c ≠ 2 ∧ c ≠ 9 := by
  rcases hc with rfl | rfl | rfl | rfl | rfl | rfl | rfl | rfl <;> decide
theorem tks_sg {o : Nat} {M : Nat → Nat → Int32} {L : Nat → Nat → Int64} (h : TKS o b m i M L) : (M o 25 = 3 → (tok b m i).1 = b (skB b m i) ∧ L o 27 = (b (skB b m i)).toInt64 ∧ M o 24 = nI (tok b m i).2.2.2 ∧ skB b m i < m) ∧ (M o 25 ≠ 3 → ∀ c, isSg c → (tok b m i).1 ≠ c) := by
  obtain ⟨-, -, h⟩ := h
  rcases h with ⟨h1, h2⟩ | ⟨h1, h2, h3, h4⟩ | ⟨h1, h2, h3, h4, h5, h6⟩ | ⟨h1, h2, h3, h4⟩ | ⟨h1, h2, h3, h4, h5⟩ | ⟨h1, h2, h3, h4, h5⟩
  · refine ⟨fun z => absurd (h2.symm.trans z) (by decide), fun _ c hc => ?_⟩
    rw [tok_end (Nat.le_of_eq h1.symm)]
    exact (num_ns hc).1.symm
  · refine ⟨fun z => absurd (h3.symm.trans z) (by decide), fun _ c hc => ?_⟩
    rw [tok_lt h1 h2]
    split
    · exact wkey_ns hc
    · exact (num_ns hc).2.2.1.symm
  · refine ⟨fun z => absurd (h4.symm.trans z) (by decide), fun _ c hc => ?_⟩
    rw [tok_dg h1 h2, if_neg h3]
    exact (num_ns hc).2.1.symm
  · refine ⟨fun z => absurd (h4.symm.trans z) (by decide), fun _ c hc => ?_⟩
    rw [tok_dg h1 h2, if_pos h3]
    exact (num_ns hc).2.2.2.symm
  · refine ⟨fun _ => ?_, fun z => absurd h3 z⟩
    rw [tok_sg h1 h2]
    exact ⟨rfl, h5, h4, h1⟩
  · refine ⟨fun z => absurd (h5.symm.trans z) (by decide), fun _ c hc => ?_⟩
    rw [tok_no h1 h2 h3 h4]
    exact (num_ns hc).2.2.2.symm
end TOK
noncomputable def bw (P : Prop) : Int32 := by
  classical
  exact if P then 1 else 0
theorem bw_t {P : Prop} (h : P) : bw P = 1 := if_pos h
theorem bw_f {P : Prop} (h : ¬ P) : bw P = 0 := if_neg h
theorem bw_0 {P : Prop} : bw P = 0 ↔ ¬ P := ⟨fun z h => absurd ((bw_t h).symm.trans z) (by decide), bw_f⟩
theorem bw_n {P : Prop} : ¬ bw P = 0 ↔ P := ⟨fun z => Classical.byContradiction fun h => z (bw_f h), fun h z => absurd ((bw_t h).symm.trans z) (by decide)⟩
theorem bw_c {P Q : Prop} (h : P ↔ Q) : bw P = bw Q := by rw [propext h]
