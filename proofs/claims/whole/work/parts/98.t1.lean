section GDT
variable {b : Nat → Int32} {m : Nat}
theorem dgs_nI {s : Nat} : ∀ k, k ≤ 4 → (∀ j, j < k → isDg (b (s + j))) → ∃ D, D < 10 ^ k ∧ dgs b s k = nI D := by
  intro k
  induction k with
  | zero => intro _ _; exact ⟨0, by decide, rfl⟩
  | succ k ih =>
    intro hk h
    obtain ⟨D, hD, e⟩ := ih (by omega) (fun j hj => h j (by omega))
    have hd := isDg_i.mp (h k (by omega))
    obtain ⟨q, hq, eq⟩ : ∃ q, (48 ≤ q ∧ q ≤ 57) ∧ b (s + k) = nI q := ⟨(b (s + k)).toInt.toNat, by omega, by rw [i_eq, nI_toInt (by omega)]; omega⟩
    have h4 : (10 : Nat) ^ k ≤ 10 ^ 3 := Nat.pow_le_pow_right (by decide) (by omega)
    refine ⟨D * 10 + q - 48, by rw [Nat.pow_succ]; omega, ?_⟩
    show dgs b s k * 10 + b (s + k) - 48 = _
    rw [e, eq, show nI D * 10 = nI (D * 10) from pk_mul D 10, nI_add]
    exact pk_sub (a := D * 10 + q) (b := 48) (by omega)
theorem nI_ge0 {D : Nat} (h : D < 1000000) : 0 ≤ nI D := nI_le (a := 0) (Nat.zero_le _) (by omega)
theorem tok_nn {i : Nat} (h : (tok b m i).1 = 1) : 0 ≤ (tok b m i).2.1 := by
  unfold tok at h ⊢
  split
  · exact Int32.le_refl _
  · rename_i z
    rw [if_neg z] at h
    split
    · rename_i l
      rw [if_pos l] at h
      split
      · exact Int32.le_refl _
      · rename_i w
        rw [if_neg w] at h
        exact absurd (show (2 : Int32) = 1 from h) (by decide)
    · rename_i l
      rw [if_neg l] at h
      split
      · split
        · exact Int32.le_refl _
        · rename_i dd w
          obtain ⟨D, hD, e⟩ := dgs_nI (b := b) (s := skB b m i) (skD b m (skB b m i) - skB b m i) (by omega) (fun j hj => by
            have hj2 : skB b m i + j < skD b m (skB b m i) := by omega
            have := run_all (p := isDg) (b := b) (n := m) _ _ _ (Nat.le_add_right _ j) hj2
            rw [bt_in (Nat.lt_of_lt_of_le hj2 (run_le (by omega)))] at this
            exact this)
          have h4 : (10 : Nat) ^ (skD b m (skB b m i) - skB b m i) ≤ 10 ^ 4 := Nat.pow_le_pow_right (by decide) (by omega)
          show 0 ≤ dgs b (skB b m i) (skD b m (skB b m i) - skB b m i)
          rw [e]
          exact nI_ge0 (by omega)
      · split
        · exact Int32.le_refl _
        · exact Int32.le_refl _
theorem wname_r {s e : Nat} (h : ¬ wname b s e = 0) : -6 ≤ wname b s e ∧ ¬ 0 ≤ wname b s e := by
  unfold wname at h ⊢
  split
  · decide
  · rename_i z
    rw [if_neg z] at h
    split
    · decide
    · rename_i z
      rw [if_neg z] at h
      split
      · decide
      · rename_i z
        rw [if_neg z] at h
        split
        · decide
        · rename_i z
          rw [if_neg z] at h
          split
          · decide
          · rename_i z
            rw [if_neg z] at h
            split
            · decide
            · rename_i z
              rw [if_neg z] at h
              exact absurd rfl h
theorem tok_nm {i : Nat} (h : (tok b m i).1 = 2) : -6 ≤ (tok b m i).2.1 ∧ ¬ 0 ≤ (tok b m i).2.1 := by
  unfold tok at h ⊢
  split
  · rename_i z
    rw [if_pos z] at h
    exact absurd (show (0 : Int32) = 2 from h) (by decide)
  · rename_i z
    rw [if_neg z] at h
    split
    · rename_i l
      rw [if_pos l] at h
      split
      · rename_i w
        rw [if_pos w] at h
        exact absurd h wkey_12.2
      · rename_i w
        exact wname_r w
    · rename_i l
      rw [if_neg l] at h
      split
      · rename_i dd
        rw [if_pos dd] at h
        split
        · rename_i w
          rw [if_pos w] at h
          exact absurd (show (9 : Int32) = 2 from h) (by decide)
        · rename_i w
          rw [if_neg w] at h
          exact absurd (show (1 : Int32) = 2 from h) (by decide)
      · rename_i dd
        rw [if_neg dd] at h
        split
        · rename_i w
          rw [if_pos w] at h
          have h : b (skB b m i) = 2 := h
          rcases w with w | w | w | w | w | w | w | w <;> (rw [w] at h; exact absurd h (by decide))
        · rename_i w
          rw [if_neg w] at h
          exact absurd (show (9 : Int32) = 2 from h) (by decide)
theorem gd_one {can : Bool} {o1 e1 : PF} (ho : can = true → GD m o1) (he : can = true → GD m e1) : GD m (gOne b m can o1 e1) := by
  intro i c d j hi h
  unfold gOne at h
  by_cases h1 : (tok b m i).1 = 1
  · rw [if_pos h1] at h
    obtain ⟨q1, q2⟩ := tk_e (b := b) (m := m) (i := i) (by rw [h1]; decide)
    cases h
    exact ⟨q1, q2, by simp only [List.length_cons, List.length_nil]; omega, CEV_num (tok_nn h1)⟩
  · rw [if_neg h1] at h
    by_cases h2 : (tok b m i).1 = 2
    · rw [if_pos h2] at h
      obtain ⟨q1, q2⟩ := tk_e (b := b) (m := m) (i := i) (by rw [h2]; decide)
      obtain ⟨w1, w2⟩ := tok_nm h2
      cases h
      exact ⟨q1, q2, by simp only [List.length_cons, List.length_nil]; omega, CEV_nam w1 w2⟩
    · rw [if_neg h2] at h
      by_cases h3 : (tok b m i).1 = 45
      · rw [if_pos h3] at h
        obtain ⟨q1, q2⟩ := tk_e (b := b) (m := m) (i := i) (by rw [h3]; decide)
        by_cases hc : can = true
        · rw [if_pos hc] at h
          cases hq : o1 (tok b m i).2.2.2 with
          | inl q => rw [hq] at h; cases h
          | inr q =>
            obtain ⟨c2, d2, j2⟩ := q
            rw [hq] at h
            obtain ⟨g1, g2, g3, g4⟩ := ho hc _ _ _ _ q2 hq
            have h : (.inr (c2 ++ [-8], fun nm => - d2 nm, j2) : PR) = .inr (c, d, j) := h
            cases h
            exact ⟨by omega, g2, by simp only [List.length_append, List.length_cons, List.length_nil]; omega, CEV_neg g4⟩
        · rw [if_neg hc] at h; cases h
      · rw [if_neg h3] at h
        by_cases h4 : (tok b m i).1 = 40
        · rw [if_pos h4] at h
          obtain ⟨q1, q2⟩ := tk_e (b := b) (m := m) (i := i) (by rw [h4]; decide)
          by_cases hc : can = true
          · rw [if_pos hc] at h
            cases hq : e1 (tok b m i).2.2.2 with
            | inl q => rw [hq] at h; cases h
            | inr q =>
              obtain ⟨c2, d2, j2⟩ := q
              rw [hq] at h
              obtain ⟨g1, g2, g3, g4⟩ := he hc _ _ _ _ q2 hq
              have h : (if (tok b m j2).1 = 41 then (.inr (c2, d2, (tok b m j2).2.2.2) : PR) else .inl (tok b m j2).2.2.1) = .inr (c, d, j) := h
              by_cases h5 : (tok b m j2).1 = 41
              · rw [if_pos h5] at h
                obtain ⟨k1, k2⟩ := tk_e (b := b) (m := m) (i := j2) (by rw [h5]; decide)
                cases h
                exact ⟨by omega, k2, by omega, g4⟩
              · rw [if_neg h5] at h; cases h
          · rw [if_neg hc] at h; cases h
        · rw [if_neg h4] at h; cases h
theorem gd_lev : ∀ f, GD m (lev b m f).1 ∧ GD m (lev b m f).2.1 ∧ GD m (lev b m f).2.2 := by
  intro f
  induction f with
  | zero =>
    have h1 : GD m (gOne b m false pNo pNo) := gd_one (fun z => by cases z) (fun z => by cases z)
    have h2 : GD m (gNot b m false pNo (gOne b m false pNo pNo)) := gd_not (fun z => by cases z) h1
    exact ⟨h1, h2, gd_either h2⟩
  | succ f ih =>
    have h1 : GD m (gOne b m true (lev b m f).1 (lev b m f).2.2) := gd_one (fun _ => ih.1) (fun _ => ih.2.2)
    have h2 : GD m (gNot b m true (lev b m f).2.1 (gOne b m true (lev b m f).1 (lev b m f).2.2)) := gd_not (fun _ => ih.2.1) h1
    exact ⟨h1, h2, gd_either h2⟩
theorem gd_part {key : Int32} (hk : key ≠ 0) : GD m (gPart b m key) := by
  intro i c d j hi h
  unfold gPart at h
  by_cases h1 : (tok b m i).1 = key
  · rw [if_pos h1] at h
    obtain ⟨q1, q2⟩ := tk_e (b := b) (m := m) (i := i) (by rw [h1]; exact hk)
    cases hq : (lev b m 5).2.2 (tok b m i).2.2.2 with
    | inl q => rw [hq] at h; cases h
    | inr q =>
      obtain ⟨c2, d2, j2⟩ := q
      rw [hq] at h
      obtain ⟨g1, g2, g3, g4⟩ := (gd_lev (b := b) (m := m) 5).2.2 _ _ _ _ q2 hq
      have h : (if (tok b m j2).1 = 59 then (.inr (c2, d2, (tok b m j2).2.2.2) : PR) else .inl (tok b m j2).2.2.1) = .inr (c, d, j) := h
      by_cases h5 : (tok b m j2).1 = 59
      · rw [if_pos h5] at h
        obtain ⟨k1, k2⟩ := tk_e (b := b) (m := m) (i := j2) (by rw [h5]; decide)
        cases h
        exact ⟨by omega, k2, by omega, g4⟩
      · rw [if_neg h5] at h; cases h
  · rw [if_neg h1] at h; cases h
end GDT
