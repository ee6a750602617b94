section RZ0
variable {G : Gx} {sc : Nat → Nat → Prop} {n : Nat} {S : Nat → Nat × Nat} {P : Nat → Nat → Option Nat} {o r m : Nat} {b : Nat → Int32} {nm : Nms}
/-- one, not, either, when f more may be open -/
theorem kp_lev (hB : ∀ i, i < m → 0 ≤ (b i).toInt) (hR : RWF o S P) (hX : HX o sc) : ∀ f, f ≤ 5 →
    (∀ (i : Nat) (M : Nat → Nat → Int32) (L : Nat → Nat → Int64), PST o r m b nm f i M L → KK G sc yX12_atom cX12_atom 2 (some .int) (5 + 6 * f) 0 0 [.ref o] (n, S, M, L, P) (PPO o r m b nm f i n S P ((lev b m f).1 i) M L)) ∧
    (∀ (i : Nat) (M : Nat → Nat → Int32) (L : Nat → Nat → Int64), PST o r m b nm f i M L → KK G sc yX12_not cX12_not 4 (some .int) (8 + 6 * f) 0 0 [.ref o] (n, S, M, L, P) (PPO o r m b nm f i n S P ((lev b m f).2.1 i) M L)) ∧
    (∀ (i : Nat) (M : Nat → Nat → Int32) (L : Nat → Nat → Int64), PST o r m b nm f i M L → KK G sc yX12_either cX12_either 3 (some .int) (10 + 6 * f) 0 0 [.ref o] (n, S, M, L, P) (PPO o r m b nm f i n S P ((lev b m f).2.2 i) M L)) := by
  intro f
  induction f with
  | zero =>
    intro _
    have ha := kp_atom0 (G := G) (sc := sc) (n := n) (S := S) (P := P) (r := r) (nm := nm) hB hR hX
    have ht := kp_term (g := gTerm b m (gOne b m false pNo pNo)) (ds := 5) (by omega) hB hR hX (fun i => rfl) ha
    have hs := kp_added (g := gSum b m (gOne b m false pNo pNo)) (ds := 6) (by omega) hB hR hX (fun i => rfl) ht
    have hn := kp_not0 (ds := 7) (by omega) hB hs hR hX
    have hb := kp_both (g := gBoth b m (gNot b m false pNo (gOne b m false pNo pNo))) (ds := 8) (by omega) hB hR hX (fun i => rfl) hn
    have he := kp_either (g := gEither b m (gNot b m false pNo (gOne b m false pNo pNo))) (ds := 9) (by omega) hB hR hX (fun i => rfl) hb
    rw [show lev b m 0 = (gOne b m false pNo pNo, gNot b m false pNo (gOne b m false pNo pNo), gEither b m (gNot b m false pNo (gOne b m false pNo pNo))) from rfl, show 5 + 6 * 0 = 5 from rfl, show 8 + 6 * 0 = 7 + 1 from rfl, show 10 + 6 * 0 = 9 + 1 from rfl]
    exact ⟨ha, hn, he⟩
  | succ f ih =>
    intro hf
    obtain ⟨a1, n1, e1⟩ := ih (by omega)
    have ha := kp_atom1 (g1 := (lev b m f).1) (ge := (lev b m f).2.2) (ds := 10 + 6 * f) (dt := 5 + 6 * f) hf (by omega) (by omega) hB a1 e1 hR hX
    have ht := kp_term (g := gTerm b m (gOne b m true (lev b m f).1 (lev b m f).2.2)) (ds := 10 + 6 * f + 1) (by omega) hB hR hX (fun i => rfl) ha
    have hs := kp_added (g := gSum b m (gOne b m true (lev b m f).1 (lev b m f).2.2)) (ds := 10 + 6 * f + 1 + 1) (by omega) hB hR hX (fun i => rfl) ht
    have hn := kp_notS (n1 := (lev b m f).2.1) (ds := 10 + 6 * f + 1 + 1 + 1) (dt := 8 + 6 * f) hf (by omega) (by omega) hB hs n1 hR hX
    have hb := kp_both (g := gBoth b m (gNot b m true (lev b m f).2.1 (gOne b m true (lev b m f).1 (lev b m f).2.2))) (ds := 10 + 6 * f + 1 + 1 + 1 + 1) (by omega) hB hR hX (fun i => rfl) hn
    have he := kp_either (g := gEither b m (gNot b m true (lev b m f).2.1 (gOne b m true (lev b m f).1 (lev b m f).2.2))) (ds := 10 + 6 * f + 1 + 1 + 1 + 1 + 1) (by omega) hB hR hX (fun i => rfl) hb
    rw [show lev b m (f + 1) = (gOne b m true (lev b m f).1 (lev b m f).2.2, gNot b m true (lev b m f).2.1 (gOne b m true (lev b m f).1 (lev b m f).2.2), gEither b m (gNot b m true (lev b m f).2.1 (gOne b m true (lev b m f).1 (lev b m f).2.2))) from rfl, show 5 + 6 * (f + 1) = 10 + 6 * f + 1 by omega, show 8 + 6 * (f + 1) = 10 + 6 * f + 1 + 1 + 1 + 1 by omega, show 10 + 6 * (f + 1) = 10 + 6 * f + 1 + 1 + 1 + 1 + 1 + 1 by omega]
    exact ⟨ha, hn, he⟩
end RZ0
section GQ
variable {b : Nat → Int32} {m i j q : Nat} {key : Int32} {c : List Int32} {d : Nms → Int32}
theorem gQ_0 (h : ¬ (tok b m i).1 = key) : gPart b m key i = .inl (tok b m i).2.2.1 := if_neg h
theorem gQ_1 (h : (tok b m i).1 = key) (hs : (lev b m 5).2.2 (tok b m i).2.2.2 = .inl q) : gPart b m key i = .inl q := by
  unfold gPart
  rw [if_pos h, hs]
  rfl
theorem gQ_2 (h : (tok b m i).1 = key) (hs : (lev b m 5).2.2 (tok b m i).2.2.2 = .inr (c, d, j)) (hj : ¬ (tok b m j).1 = 59) : gPart b m key i = .inl (tok b m j).2.2.1 := by
  unfold gPart
  rw [if_pos h, hs]
  exact if_neg hj
theorem gQ_3 (h : (tok b m i).1 = key) (hs : (lev b m 5).2.2 (tok b m i).2.2.2 = .inr (c, d, j)) (hj : (tok b m j).1 = 59) : gPart b m key i = .inr (c, d, (tok b m j).2.2.2) := by
  unfold gPart
  rw [if_pos h, hs]
  exact if_pos hj
variable {c0 c1 c2 : List Int32} {d0 d1 d2 : Nms → Int32} {i0 i1 i2 : Nat}
theorem gX_0 (h : gPart b m 3 0 = .inl q) : gText b m = .inl q := by
  unfold gText
  simp only [h]
theorem gX_1 (h : gPart b m 3 0 = .inr (c0, d0, i0)) (h1 : gPart b m 4 i0 = .inl q) : gText b m = .inl q := by
  unfold gText
  simp only [h, h1]
theorem gX_2 (h : gPart b m 3 0 = .inr (c0, d0, i0)) (h1 : gPart b m 4 i0 = .inr (c1, d1, i1)) (h2 : gPart b m 5 i1 = .inl q) : gText b m = .inl q := by
  unfold gText
  simp only [h, h1, h2]
theorem gX_3 (h : gPart b m 3 0 = .inr (c0, d0, i0)) (h1 : gPart b m 4 i0 = .inr (c1, d1, i1)) (h2 : gPart b m 5 i1 = .inr (c2, d2, i2)) (h3 : ¬ (tok b m i2).1 = 0) : gText b m = .inl (tok b m i2).2.2.1 := by
  unfold gText
  simp only [h, h1, h2, if_neg h3]
theorem gX_4 (h : gPart b m 3 0 = .inr (c0, d0, i0)) (h1 : gPart b m 4 i0 = .inr (c1, d1, i1)) (h2 : gPart b m 5 i1 = .inr (c2, d2, i2)) (h3 : (tok b m i2).1 = 0) : gText b m = .inr ((c0, c1, c2), d0, d1, d2) := by
  unfold gText
  simp only [h, h1, h2, if_pos h3]
end GQ
theorem wkey_0 {b : Nat → Int32} {s e : Nat} : wkey b s e ≠ 0 := by
  unfold wkey
  repeat' split
  all_goals decide
/-- the end of the text -/
theorem tks_end {o m i : Nat} {b : Nat → Int32} {M : Nat → Nat → Int32} {L : Nat → Nat → Int64} (h : TKS o b m i M L) : M o 25 = 0 ↔ (tok b m i).1 = 0 := by
  obtain ⟨-, -, h⟩ := h
  rcases h with ⟨h1, h2⟩ | ⟨h1, h2, h3, h4⟩ | ⟨h1, h2, h3, h4, h5, h6⟩ | ⟨h1, h2, h3, h4⟩ | ⟨h1, h2, h3, h4, h5⟩ | ⟨h1, h2, h3, h4, h5⟩
  · rw [tok_end (Nat.le_of_eq h1.symm), h2]
  · rw [tok_lt h1 h2, h3]
    split
    · exact ⟨fun z => absurd z (by decide), fun z => absurd z wkey_0⟩
    · exact ⟨fun z => absurd z (by decide), fun z => absurd z (show ¬ (2 : Int32) = 0 by decide)⟩
  · rw [tok_dg h1 h2, if_neg h3, h4]
    exact ⟨fun z => absurd z (by decide), fun z => absurd z (show ¬ (1 : Int32) = 0 by decide)⟩
  · rw [tok_dg h1 h2, if_pos h3, h4]
    exact ⟨fun z => absurd z (by decide), fun z => absurd z (show ¬ (9 : Int32) = 0 by decide)⟩
  · rw [tok_sg h1 h2, h3]
    exact ⟨fun z => absurd z (by decide), fun z => absurd z (num_ns h2).1⟩
  · rw [tok_no h1 h2 h3 h4, h5]
    exact ⟨fun z => absurd z (by decide), fun z => absurd z (show ¬ (9 : Int32) = 0 by decide)⟩
/-- what the reading of a text changes -/
def PDR (o b k : Nat) : Prop := b = o ∧ 22 ≤ k ∧ k ≤ 30
theorem pd_r {o b k : Nat} (h : PD o b k) : PDR o b k := by
  unfold PD at h
  unfold PDR
  omega
theorem bw_z (P : Prop) : bw P = 0 ∨ bw P = 1 := by
  by_cases h : P
  · exact Or.inr (bw_t h)
  · exact Or.inl (bw_f h)
def s3 (w : Nat) (x y z : Int32) : Int32 := match w with
  | 0 => x
  | 1 => y
  | _ => z
section RDW
variable {wk : Nat} {wi : Int32}
theorem rd_w0 (hw : wk < 3 ∧ wi = nI wk) (h : wi = 0) : wk = 0 := (nI_eq (a := wk) (b := 0) (by omega) (by omega)).mp (hw.2.symm.trans h)
theorem rd_w1 (hw : wk < 3 ∧ wi = nI wk) (h : wi = 1) : wk = 1 := (nI_eq (a := wk) (b := 1) (by omega) (by omega)).mp (hw.2.symm.trans h)
theorem rd_w2 (hw : wk < 3 ∧ wi = nI wk) (h0 : ¬ wi = 0) (h1 : ¬ wi = 1) : wk = 2 := by
  obtain ⟨h, rfl⟩ := hw
  rcases (by omega : wk = 0 ∨ wk = 1 ∨ wk = 2) with rfl | rfl | rfl
  · exact absurd rfl h0
  · exact absurd rfl h1
  · rfl
end RDW
