/-! ===== words and tokens ===== -/
theorem wq_uniq {b : Nat → Int32} {s e : Nat} {l k : List Int32} (h : wq b s e l) (g : wq b s e k) : l = k := by
  obtain ⟨h1, h2⟩ := h
  obtain ⟨g1, g2⟩ := g
  have hl : l.length = k.length := h1.symm.trans g1
  refine List.ext_getElem hl (fun i hi hk => ?_)
  have e1 := (h2 i hi).symm.trans (g2 i hk)
  rw [List.getD_eq_getElem?_getD, List.getD_eq_getElem?_getD, List.getElem?_eq_getElem hi, List.getElem?_eq_getElem hk] at e1
  exact e1
section WK
variable {b : Nat → Int32} {s e : Nat}
theorem wkey_is {l : List Int32} {v : Int32} (h : wq b s e l) (hn : l ≠ wFar ∧ l ≠ wWarm ∧ l ≠ wLegs ∧ l ≠ wQuick ∧ l ≠ wNumber ∧ l ≠ wCell) (hv : (if l = wFlies then (3 : Int32) else if l = wSteps then 4 else if l = wSlips then 5 else if l = wOr then 6 else if l = wAnd then 7 else if l = wNot then 8 else 9) = v) : wname b s e = 0 ∧ wkey b s e = v := by
  have q : ∀ k, wq b s e k ↔ l = k := fun k => ⟨fun z => wq_uniq h z, fun z => z ▸ h⟩
  constructor
  · unfold wname
    rw [if_neg (fun z => hn.1 ((q _).mp z)), if_neg (fun z => hn.2.1 ((q _).mp z)), if_neg (fun z => hn.2.2.1 ((q _).mp z)), if_neg (fun z => hn.2.2.2.1 ((q _).mp z)), if_neg (fun z => hn.2.2.2.2.1 ((q _).mp z)), if_neg (fun z => hn.2.2.2.2.2 ((q _).mp z))]
  · unfold wkey
    simp only [q]
    rw [← hv]
end WK
theorem wkey_3 {b : Nat → Int32} {s e : Nat} (h : wkey b s e = 3) : wq b s e wFlies := by
  unfold wkey at h
  repeat' split at h
  all_goals first
    | assumption
    | exact absurd h (by decide)
theorem wkey_4 {b : Nat → Int32} {s e : Nat} (h : wkey b s e = 4) : wq b s e wSteps := by
  unfold wkey at h
  repeat' split at h
  all_goals first
    | assumption
    | exact absurd h (by decide)
theorem wkey_5 {b : Nat → Int32} {s e : Nat} (h : wkey b s e = 5) : wq b s e wSlips := by
  unfold wkey at h
  repeat' split at h
  all_goals first
    | assumption
    | exact absurd h (by decide)
theorem wkey_6 {b : Nat → Int32} {s e : Nat} (h : wkey b s e = 6) : wq b s e wOr := by
  unfold wkey at h
  repeat' split at h
  all_goals first
    | assumption
    | exact absurd h (by decide)
theorem wkey_7 {b : Nat → Int32} {s e : Nat} (h : wkey b s e = 7) : wq b s e wAnd := by
  unfold wkey at h
  repeat' split at h
  all_goals first
    | assumption
    | exact absurd h (by decide)
theorem wkey_8 {b : Nat → Int32} {s e : Nat} (h : wkey b s e = 8) : wq b s e wNot := by
  unfold wkey at h
  repeat' split at h
  all_goals first
    | assumption
    | exact absurd h (by decide)
theorem num_key {v : Int32} (hv : 3 ≤ v ∧ v ≤ 8) : v ≠ 0 ∧ v ≠ 1 ∧ v ≠ 2 ∧ v ≠ 9 ∧ ¬ isSg v := by
  rw [i_le, i_le] at hv
  have h3 : (3 : Int32).toInt = 3 := rfl
  have h8 : (8 : Int32).toInt = 8 := rfl
  rw [h3, h8] at hv
  refine ⟨fun e => ?_, fun e => ?_, fun e => ?_, fun e => ?_, fun e => ?_⟩
  · rw [e] at hv; exact absurd hv (by decide)
  · rw [e] at hv; exact absurd hv (by decide)
  · rw [e] at hv; exact absurd hv (by decide)
  · rw [e] at hv; exact absurd hv (by decide)
  · rcases e with e | e | e | e | e | e | e | e <;> (rw [e] at hv; exact absurd hv (by decide))
theorem tok_key {o m i : Nat} {b : Nat → Int32} {M : Nat → Nat → Int32} {L : Nat → Nat → Int64} {l : List Int32} {v : Int32} (h : TKS o b m i M L) (hv : 3 ≤ v ∧ v ≤ 8) (hi : ∀ s e, wkey b s e = v → wq b s e l) (hn : l ≠ wFar ∧ l ≠ wWarm ∧ l ≠ wLegs ∧ l ≠ wQuick ∧ l ≠ wNumber ∧ l ≠ wCell)
    (hk : (if l = wFlies then (3 : Int32) else if l = wSteps then 4 else if l = wSlips then 5 else if l = wOr then 6 else if l = wAnd then 7 else if l = wNot then 8 else 9) = v) : ((tok b m i).1 = v ↔ (M o 25 = 1 ∧ wq b (skB b m i) (skL b m (skB b m i)) l)) ∧ ((tok b m i).1 = v → (tok b m i).2.2.2 = skL b m (skB b m i)) := by
  obtain ⟨n0, n1, n2, n9, ns⟩ := num_key hv
  obtain ⟨-, -, h⟩ := h
  rcases h with ⟨h1, h2⟩ | ⟨h1, h2, h3, h4⟩ | ⟨h1, h2, h3, h4, h5, h6⟩ | ⟨h1, h2, h3, h4⟩ | ⟨h1, h2, h3, h4, h5⟩ | ⟨h1, h2, h3, h4, h5⟩
  · rw [tok_end (Nat.le_of_eq h1.symm)]
    exact ⟨⟨fun e => absurd e.symm n0, fun e => absurd (h2.symm.trans e.1) (by decide)⟩, fun e => absurd e.symm n0⟩
  · rw [tok_lt h1 h2]
    by_cases hw : wname b (skB b m i) (skL b m (skB b m i)) = 0
    · rw [if_pos hw]
      exact ⟨⟨fun e => ⟨h3, hi _ _ e⟩, fun e => (wkey_is e.2 hn hk).2⟩, fun _ => rfl⟩
    · rw [if_neg hw]
      exact ⟨⟨fun e => absurd e.symm n2, fun e => absurd (wkey_is e.2 hn hk).1 hw⟩, fun e => absurd e.symm n2⟩
  · rw [tok_dg h1 h2, if_neg h3]
    exact ⟨⟨fun e => absurd e.symm n1, fun e => absurd (h4.symm.trans e.1) (by decide)⟩, fun e => absurd e.symm n1⟩
  · rw [tok_dg h1 h2, if_pos h3]
    exact ⟨⟨fun e => absurd e.symm n9, fun e => absurd (h4.symm.trans e.1) (by decide)⟩, fun e => absurd e.symm n9⟩
  · rw [tok_sg h1 h2]
    exact ⟨⟨fun e => absurd (show isSg v from e ▸ h2) ns, fun e => absurd (h3.symm.trans e.1) (by decide)⟩, fun e => absurd (show isSg v from e ▸ h2) ns⟩
  · rw [tok_no h1 h2 h3 h4]
    exact ⟨⟨fun e => absurd e.symm n9, fun e => absurd (h5.symm.trans e.1) (by decide)⟩, fun e => absurd e.symm n9⟩
theorem run_all {p : Int32 → Prop} [DecidablePred p] {b : Nat → Int32} {n : Nat} : ∀ k i j, i ≤ j → j < runTo b n p k i → p (bt b n j) := by
  intro k
  induction k with
  | zero => intro i j h1 h2; exact absurd h2 (Nat.not_lt.mpr h1)
  | succ k ih =>
    intro i j h1 h2
    unfold runTo at h2
    split at h2
    · rename_i hp
      by_cases e : j = i
      · rw [e]; exact hp
      · exact ih (i + 1) j (by omega) h2
    · exact absurd h2 (Nat.not_lt.mpr h1)
theorem word_iff {b : Nat → Int32} {m s e : Nat} {l : List Int32} {a : Nat → Int32} (hl : l.length ≤ 8) (hnz : ∀ i, i < l.length → l.getD i 0 ≠ 0) (h8 : ∀ k, k < 8 → a k = l.getD k 0) (hs : s < e) (hem : e ≤ m) (hall : ∀ j, s ≤ j → j < e → isLt (bt b m j)) :
    (e ≤ s + 8 ∧ ∀ k, k < 8 → (if s + k < e then bt b m (s + k) = a k else a k = 0)) ↔ wq b s e l := by
  constructor
  · intro ⟨h1, h2⟩
    have hlen : e - s = l.length := by
      rcases Nat.lt_trichotomy (e - s) l.length with q | q | q
      · have z := h2 (e - s) (by omega)
        rw [if_neg (by omega), h8 _ (by omega)] at z
        exact absurd z (hnz _ q)
      · exact q
      · have z := h2 l.length (by omega)
        rw [if_pos (by omega), h8 _ (by omega), List.getD_eq_getElem?_getD, List.getElem?_eq_none (Nat.le_refl _)] at z
        have y := hall (s + l.length) (by omega) (by omega)
        rw [z] at y
        exact absurd y (by decide)
    refine ⟨hlen, fun i hi => ?_⟩
    have z := h2 i (by omega)
    rw [if_pos (by omega), h8 _ (by omega), bt_in (by omega)] at z
    exact z
  · intro ⟨h1, h2⟩
    refine ⟨by omega, fun k hk => ?_⟩
    split
    · rw [bt_in (by omega), h8 k hk]; exact h2 k (by omega)
    · rw [h8 k hk, List.getD_eq_getElem?_getD, List.getElem?_eq_none (by omega)]; rfl
