/-! ===== codes: how long they are, and what they say ===== -/
section GDS
variable {b : Nat → Int32} {m : Nat}
/-- a part: it goes on, its code is no longer than its bytes, the code says what the part says -/
def GD (m : Nat) (g : PF) : Prop := ∀ i c d j, i ≤ m → g i = .inr (c, d, j) → i < j ∧ j ≤ m ∧ c.length + i ≤ j ∧ CEV c d
theorem tk_e {i : Nat} (hk : (tok b m i).1 ≠ 0) : i < (tok b m i).2.2.2 ∧ (tok b m i).2.2.2 ≤ m := by
  rcases Nat.lt_or_ge (skB b m i) m with q | q
  · exact tok_e q
  · exact absurd (by unfold tok; rw [if_pos q]) hk
theorem CEV_bin {c c2 : List Int32} {d d2 : Nms → Int32} {op : Int32} {f : Int32 → Int32 → Int32} (h : CEV c d) (h2 : CEV c2 d2) (ho : ¬ -6 ≤ op) (ho2 : ¬ -8 ≤ op) (hf : ∀ x y, s_join op x y = f x y) : CEV (c ++ c2 ++ [op]) (fun nm => f (d nm) (d2 nm)) := by
  intro nm st
  rw [crun_app, crun_app, h, h2]
  show crun1 nm (d2 nm :: d nm :: st) op = _
  unfold crun1
  rw [if_neg ho, if_neg ho2]
  show s_join op (d nm) (d2 nm) :: st = _
  rw [hf]
theorem CEV_neg {c : List Int32} {d : Nms → Int32} (h : CEV c d) : CEV (c ++ [-8]) (fun nm => - d nm) := by
  intro nm st
  rw [crun_app, h]
  rfl
theorem CEV_not {c : List Int32} {d : Nms → Int32} (h : CEV c d) : CEV (c ++ [-7]) (fun nm => b2 (d nm = 0)) := by
  intro nm st
  rw [crun_app, h]
  rfl
theorem CEV_num {v : Int32} (h : 0 ≤ v) : CEV [v] (fun _ => v) := by
  intro nm st
  show crun1 nm st v = _
  unfold crun1
  rw [if_pos (Int32.le_trans (by decide) h), if_pos h]
theorem CEV_nam {v : Int32} (h : -6 ≤ v) (h2 : ¬ 0 ≤ v) : CEV [v] (fun nm => nm (-1 - v).toNatClampNeg) := by
  intro nm st
  show crun1 nm st v = _
  unfold crun1
  rw [if_pos h, if_neg h2]
/-- a loop of operands keeps it -/
theorem gd_loop {ops : Int32 → Option (Int32 × (Int32 → Int32 → Int32))} {sub : PF} (hs : GD m sub) (h0 : ops 0 = none) (hop : ∀ t o, ops t = some o → ¬ -6 ≤ o.1 ∧ ¬ -8 ≤ o.1 ∧ ∀ x y, s_join o.1 x y = o.2 x y) :
    ∀ (k i0 : Nat) (c : List Int32) (d : Nms → Int32) (i : Nat), i0 < i → i ≤ m → c.length + i0 ≤ i → CEV c d → ∀ c' d' j, gLoop b m ops sub k c d i = .inr (c', d', j) → i0 < j ∧ j ≤ m ∧ c'.length + i0 ≤ j ∧ CEV c' d' := by
  intro k
  induction k with
  | zero =>
    intro i0 c d i h1 h2 h3 h4 c' d' j h
    cases h
    exact ⟨h1, h2, h3, h4⟩
  | succ k ih =>
    intro i0 c d i h1 h2 h3 h4 c' d' j h
    have h : (match ops (tok b m i).1 with
      | none => (.inr (c, d, i) : PR)
      | some o => pBind (sub (tok b m i).2.2.2) (fun c2 d2 j => gLoop b m ops sub k (c ++ c2 ++ [o.1]) (fun nm => o.2 (d nm) (d2 nm)) j)) = .inr (c', d', j) := h
    cases ho : ops (tok b m i).1 with
    | none =>
      rw [ho] at h
      cases h
      exact ⟨h1, h2, h3, h4⟩
    | some o =>
      rw [ho] at h
      have hk : (tok b m i).1 ≠ 0 := fun z => by rw [z, h0] at ho; cases ho
      obtain ⟨e1, e2⟩ := tk_e hk
      cases hq : sub (tok b m i).2.2.2 with
      | inl q => rw [hq] at h; cases h
      | inr q =>
        obtain ⟨c2, d2, j2⟩ := q
        rw [hq] at h
        obtain ⟨g1, g2, g3, g4⟩ := hs _ _ _ _ e2 hq
        obtain ⟨o1, o2, o3⟩ := hop _ _ ho
        exact ih i0 (c ++ c2 ++ [o.1]) _ j2 (by omega) g2 (by simp only [List.length_append, List.length_cons, List.length_nil]; omega) (CEV_bin h4 g4 o1 o2 o3) _ _ _ h
theorem gd_bind {ops : Int32 → Option (Int32 × (Int32 → Int32 → Int32))} {sub one : PF} (h1 : GD m one) (hs : GD m sub) (h0 : ops 0 = none) (hop : ∀ t o, ops t = some o → ¬ -6 ≤ o.1 ∧ ¬ -8 ≤ o.1 ∧ ∀ x y, s_join o.1 x y = o.2 x y) : GD m (fun i => pBind (one i) (gLoop b m ops sub 160)) := by
  intro i c d j hi h
  have h : pBind (one i) (gLoop b m ops sub 160) = .inr (c, d, j) := h
  cases hq : one i with
  | inl q => rw [hq] at h; cases h
  | inr q =>
    obtain ⟨c2, d2, j2⟩ := q
    rw [hq] at h
    obtain ⟨g1, g2, g3, g4⟩ := h1 _ _ _ _ hi hq
    exact gd_loop hs h0 hop 160 i c2 d2 j2 g1 g2 g3 g4 _ _ _ h
theorem op_mul : ∀ t o, oMul t = some o → ¬ -6 ≤ o.1 ∧ ¬ -8 ≤ o.1 ∧ ∀ x y, s_join o.1 x y = o.2 x y := by
  intro t o h
  unfold oMul at h
  split at h
  · cases h; exact ⟨(by decide : ¬ (-6 : Int32) ≤ -15), (by decide : ¬ (-8 : Int32) ≤ -15), fun x y => rfl⟩
  · cases h
theorem op_add : ∀ t o, oAdd t = some o → ¬ -6 ≤ o.1 ∧ ¬ -8 ≤ o.1 ∧ ∀ x y, s_join o.1 x y = o.2 x y := by
  intro t o h
  unfold oAdd at h
  split at h
  · cases h; exact ⟨(by decide : ¬ (-6 : Int32) ≤ -13), (by decide : ¬ (-8 : Int32) ≤ -13), fun x y => rfl⟩
  · split at h
    · cases h; exact ⟨(by decide : ¬ (-6 : Int32) ≤ -14), (by decide : ¬ (-8 : Int32) ≤ -14), fun x y => rfl⟩
    · cases h
theorem op_and : ∀ t o, oAnd t = some o → ¬ -6 ≤ o.1 ∧ ¬ -8 ≤ o.1 ∧ ∀ x y, s_join o.1 x y = o.2 x y := by
  intro t o h
  unfold oAnd at h
  split at h
  · cases h; exact ⟨(by decide : ¬ (-6 : Int32) ≤ -10), (by decide : ¬ (-8 : Int32) ≤ -10), fun x y => rfl⟩
  · cases h
theorem op_or : ∀ t o, oOr t = some o → ¬ -6 ≤ o.1 ∧ ¬ -8 ≤ o.1 ∧ ∀ x y, s_join o.1 x y = o.2 x y := by
  intro t o h
  unfold oOr at h
  split at h
  · cases h; exact ⟨(by decide : ¬ (-6 : Int32) ≤ -9), (by decide : ¬ (-8 : Int32) ≤ -9), fun x y => rfl⟩
  · cases h
theorem op_cmp : ∀ t o, oCmp t = some o → ¬ -6 ≤ o.1 ∧ ¬ -8 ≤ o.1 ∧ ∀ x y, s_join o.1 x y = o.2 x y := by
  intro t o h
  unfold oCmp at h
  split at h
  · cases h; exact ⟨(by decide : ¬ (-6 : Int32) ≤ -11), (by decide : ¬ (-8 : Int32) ≤ -11), fun x y => rfl⟩
  · split at h
    · cases h; exact ⟨(by decide : ¬ (-6 : Int32) ≤ -12), (by decide : ¬ (-8 : Int32) ≤ -12), fun x y => rfl⟩
    · cases h
theorem gd_term {one : PF} (h : GD m one) : GD m (gTerm b m one) := gd_bind h h rfl op_mul
theorem gd_sum {one : PF} (h : GD m one) : GD m (gSum b m one) := gd_bind (gd_term h) (gd_term h) rfl op_add
theorem gd_both {nt : PF} (h : GD m nt) : GD m (gBoth b m nt) := gd_bind h h rfl op_and
theorem gd_either {nt : PF} (h : GD m nt) : GD m (gEither b m nt) := gd_bind (gd_both h) (gd_both h) rfl op_or
theorem gd_not {can : Bool} {n1 one : PF} (hn : can = true → GD m n1) (h1 : GD m one) : GD m (gNot b m can n1 one) := by
  intro i c d j hi h
  unfold gNot at h
  by_cases h8 : (tok b m i).1 = 8
  · rw [if_pos h8] at h
    obtain ⟨e1, e2⟩ := tk_e (b := b) (m := m) (i := i) (by rw [h8]; decide)
    by_cases hc : can = true
    · rw [if_pos hc] at h
      cases hq : n1 (tok b m i).2.2.2 with
      | inl q => rw [hq] at h; cases h
      | inr q =>
        obtain ⟨c2, d2, j2⟩ := q
        rw [hq] at h
        obtain ⟨g1, g2, g3, g4⟩ := hn hc _ _ _ _ e2 hq
        have h : (.inr (c2 ++ [-7], fun nm => b2 (d2 nm = 0), j2) : PR) = .inr (c, d, j) := h
        cases h
        exact ⟨by omega, g2, by simp only [List.length_append, List.length_cons, List.length_nil]; omega, CEV_not g4⟩
    · rw [if_neg hc] at h; cases h
  · rw [if_neg h8] at h
    cases hq : gSum b m one i with
    | inl q => rw [hq] at h; cases h
    | inr q =>
      obtain ⟨c2, d2, j2⟩ := q
      rw [hq] at h
      obtain ⟨g1, g2, g3, g4⟩ := gd_sum h1 _ _ _ _ hi hq
      have h : (match oCmp (tok b m j2).1 with
        | none => (.inr (c2, d2, j2) : PR)
        | some o => pBind (gSum b m one (tok b m j2).2.2.2) (fun c3 d3 j3 => .inr (c2 ++ c3 ++ [o.1], fun nm => o.2 (d2 nm) (d3 nm), j3))) = .inr (c, d, j) := h
      cases ho : oCmp (tok b m j2).1 with
      | none => rw [ho] at h; cases h; exact ⟨g1, g2, g3, g4⟩
      | some o =>
        rw [ho] at h
        have hk : (tok b m j2).1 ≠ 0 := fun z => by rw [z] at ho; cases ho
        obtain ⟨e1, e2⟩ := tk_e hk
        cases hq3 : gSum b m one (tok b m j2).2.2.2 with
        | inl q => rw [hq3] at h; cases h
        | inr q =>
          obtain ⟨c3, d3, j3⟩ := q
          rw [hq3] at h
          obtain ⟨k1, k2, k3, k4⟩ := gd_sum h1 _ _ _ _ e2 hq3
          obtain ⟨o1, o2, o3⟩ := op_cmp _ _ ho
          have h : (.inr (c2 ++ c3 ++ [o.1], fun nm => o.2 (d2 nm) (d3 nm), j3) : PR) = .inr (c, d, j) := h
          cases h
          exact ⟨by omega, k2, by simp only [List.length_append, List.length_cons, List.length_nil]; omega, CEV_bin g4 k4 o1 o2 o3⟩
end GDS
