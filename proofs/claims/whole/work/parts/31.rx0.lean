section LP
variable {b : Nat → Int32} {m j k : Nat} {ops : Int32 → Option (Int32 × (Int32 → Int32 → Int32))} {sub : PF} {c : List Int32} {d : Nms → Int32}
theorem gl_no (h : ops (tok b m j).1 = none) : gLoop b m ops sub (k + 1) c d j = .inr (c, d, j) := by
  unfold gLoop
  rw [h]
theorem gl_in {q : Nat} {o : Int32 × (Int32 → Int32 → Int32)} (h : ops (tok b m j).1 = some o) (hs : sub (tok b m j).2.2.2 = .inl q) : gLoop b m ops sub (k + 1) c d j = .inl q := by
  unfold gLoop
  rw [h]
  show pBind (sub (tok b m j).2.2.2) _ = _
  rw [hs]
  rfl
theorem gl_go {c2 : List Int32} {d2 : Nms → Int32} {j2 : Nat} {o : Int32 × (Int32 → Int32 → Int32)} (h : ops (tok b m j).1 = some o) (hs : sub (tok b m j).2.2.2 = .inr (c2, d2, j2)) : gLoop b m ops sub (k + 1) c d j = gLoop b m ops sub k (c ++ c2 ++ [o.1]) (fun nm => o.2 (d nm) (d2 nm)) j2 := by
  rw [gLoop, h]
  show pBind (sub (tok b m j).2.2.2) _ = _
  rw [hs]
  rfl
theorem tok_0 (h : m ≤ j) : (tok b m j).1 = 0 := by rw [tok_end (Nat.le_trans h run_ge)]
theorem tks_sg24 {o : Nat} {M : Nat → Nat → Int32} {L : Nat → Nat → Int64} {cc : Int32} (h : TKS o b m j M L) (hc : isSg cc) (e : (tok b m j).1 = cc) : M o 24 = nI (tok b m j).2.2.2 ∧ L o 27 = cc.toInt64 := by
  have h25 : M o 25 = 3 := Classical.byContradiction fun z => (tks_sg h).2 z cc hc e
  obtain ⟨h1, h2, h3, -⟩ := (tks_sg h).1 h25
  exact ⟨h3, by rw [h2, ← h1, e]⟩
theorem tks_ky24 {o : Nat} {M : Nat → Nat → Int32} {L : Nat → Nat → Int64} (h : TKS o b m j M L) (h25 : M o 25 = 1) : M o 24 = nI (tok b m j).2.2.2 := by
  obtain ⟨h1, h2, h3, h4, -⟩ := tks_wd h h25
  rw [h1, tok_lt h3 h4]
  split <;> rfl
end LP
