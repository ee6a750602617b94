theorem ite_1 {c P Q : Prop} [Decidable c] (hz : c) (h : if c then P else Q) : P := by rwa [if_pos hz] at h
theorem ite_0 {c P Q : Prop} [Decidable c] (hz : ¬ c) (h : if c then P else Q) : Q := by rwa [if_neg hz] at h
section RY0
variable {b : Nat → Int32} {m i j : Nat} {o r f : Nat} {nm : Nms} {M M1 : Nat → Nat → Int32} {L : Nat → Nat → Int64}
theorem wkey_12 {s e : Nat} : wkey b s e ≠ 1 ∧ wkey b s e ≠ 2 := by
  unfold wkey
  repeat' split
  all_goals exact ⟨by decide, by decide⟩
theorem tks_num (h : TKS o b m i M L) (h25 : M o 25 = 2) : tok b m i = (1, (L o 27).toInt32, skB b m i, skD b m (skB b m i)) ∧ M o 24 = nI (tok b m i).2.2.2 := by
  obtain ⟨-, -, h⟩ := h
  rcases h with ⟨h1, h2⟩ | ⟨h1, h2, h3, h4⟩ | ⟨h1, h2, h3, h4, h5, h6⟩ | ⟨h1, h2, h3, h4⟩ | ⟨h1, h2, h3, h4, h5⟩ | ⟨h1, h2, h3, h4, h5⟩
  · exact absurd (h2.symm.trans h25) (by decide)
  · exact absurd (h3.symm.trans h25) (by decide)
  · have e : tok b m i = (1, (L o 27).toInt32, skB b m i, skD b m (skB b m i)) := by rw [tok_dg h1 h2, if_neg h3, h6]
    exact ⟨e, by rw [e]; exact h5⟩
  · exact absurd (h4.symm.trans h25) (by decide)
  · exact absurd (h3.symm.trans h25) (by decide)
  · exact absurd (h5.symm.trans h25) (by decide)
theorem tks_n1 (h : TKS o b m i M L) (h25 : ¬ M o 25 = 2) : (tok b m i).1 ≠ 1 := by
  obtain ⟨-, -, h⟩ := h
  rcases h with ⟨h1, h2⟩ | ⟨h1, h2, h3, h4⟩ | ⟨h1, h2, h3, h4, h5, h6⟩ | ⟨h1, h2, h3, h4⟩ | ⟨h1, h2, h3, h4, h5⟩ | ⟨h1, h2, h3, h4, h5⟩
  · rw [tok_end (Nat.le_of_eq h1.symm)]; show (0 : Int32) ≠ 1; decide
  · rw [tok_lt h1 h2]
    split
    · exact wkey_12.1
    · show (2 : Int32) ≠ 1; decide
  · exact absurd h4 h25
  · rw [tok_dg h1 h2, if_pos h3]; show (9 : Int32) ≠ 1; decide
  · rw [tok_sg h1 h2]; exact (num_ns h2).2.1
  · rw [tok_no h1 h2 h3 h4]; show (9 : Int32) ≠ 1; decide
theorem tks_n2 (h : TKS o b m i M L) (h25 : ¬ M o 25 = 1) : (tok b m i).1 ≠ 2 := by
  obtain ⟨-, -, h⟩ := h
  rcases h with ⟨h1, h2⟩ | ⟨h1, h2, h3, h4⟩ | ⟨h1, h2, h3, h4, h5, h6⟩ | ⟨h1, h2, h3, h4⟩ | ⟨h1, h2, h3, h4, h5⟩ | ⟨h1, h2, h3, h4, h5⟩
  · rw [tok_end (Nat.le_of_eq h1.symm)]; show (0 : Int32) ≠ 2; decide
  · exact absurd h3 h25
  · rw [tok_dg h1 h2, if_neg h3]; show (1 : Int32) ≠ 2; decide
  · rw [tok_dg h1 h2, if_pos h3]; show (9 : Int32) ≠ 2; decide
  · rw [tok_sg h1 h2]; exact (num_ns h2).2.2.1
  · rw [tok_no h1 h2 h3 h4]; show (9 : Int32) ≠ 2; decide
theorem tks_wn (h : TKS o b m i M L) (h25 : M o 25 = 1) (hn : ¬ wname b (skB b m i) (skL b m (skB b m i)) = 0) : tok b m i = (2, wname b (skB b m i) (skL b m (skB b m i)), skB b m i, skL b m (skB b m i)) := by
  obtain ⟨-, -, h1, h2, -⟩ := tks_wd h h25
  rw [tok_lt h1 h2, if_neg hn]
theorem tks_wk (h : TKS o b m i M L) (h25 : M o 25 = 1) (hn : wname b (skB b m i) (skL b m (skB b m i)) = 0) : (tok b m i).1 = wkey b (skB b m i) (skL b m (skB b m i)) := by
  obtain ⟨-, -, h1, h2, -⟩ := tks_wd h h25
  rw [tok_lt h1 h2, if_pos hn]
theorem wname_lt {s e : Nat} : (-1 - wname b s e).toNatClampNeg < 6 ∨ wname b s e = 0 := by
  unfold wname
  repeat' split
  all_goals first | exact Or.inr rfl | exact Or.inl (by decide)
theorem pst_up (hp : PST o r m b nm f j M L) (h : M1 = up2 M o 28 (nI (5 - (f + 1)))) : PST o r m b nm (f + 1) j M1 L := by
  have hk : ∀ x k, ¬ (x = o ∧ 24 ≤ k ∧ k ≤ 30) → M1 x k = M x k := fun x k z => rd_n h (by omega) rfl
  have ho : ∀ k, k ≠ 28 → M1 o k = M o k := fun k z => rd_n h (by omega) rfl
  obtain ⟨h1, h2, h3, h4, h5, h6, h7⟩ := hp
  refine ⟨h1.keep hk, (TB_keep hk).trans h2, h3, (ho _ (by decide)).trans h4, rd_s h, fun k hk' => (ho _ (by omega)).trans (h6 k hk'), ?_⟩
  unfold TKS
  rw [ho 24 (by decide), ho 25 (by decide), ho 26 (by decide)]
  exact h7
theorem nI_dn {f : Nat} (h : f + 1 ≤ 5) : nI (5 - f) - 1 = nI (5 - (f + 1)) := by
  rw [show (1 : Int32) = nI 1 from rfl, pk_sub (a := 5 - f) (b := 1) (by omega)]
  congr 1
theorem fl_n {x k : Nat} {v w : Int32} (z : ¬ PD o x k) : up2 (up2 M o 29 v) o 30 w x k = M x k := by
  unfold PD at z
  rw [up2_n (by omega), up2_n (by omega)]
section GO
variable {can : Bool} {o1 e1 : PF} {q : Nat} {c : List Int32} {d : Nms → Int32}
theorem gO_num {w : Int32} {s e : Nat} (h : tok b m i = (1, w, s, e)) : gOne b m can o1 e1 i = .inr ([w], fun _ => w, e) := by
  unfold gOne
  rw [h, if_pos rfl]
theorem gO_nam {w : Int32} {s e : Nat} (h : tok b m i = (2, w, s, e)) : gOne b m can o1 e1 i = .inr ([w], fun nm => nm (-1 - w).toNatClampNeg, e) := by
  unfold gOne
  rw [h, if_neg (show ¬ (2 : Int32) = 1 by decide), if_pos rfl]
theorem gO_min (h : (tok b m i).1 = 45) : gOne b m can o1 e1 i = (if can = true then pBind (o1 (tok b m i).2.2.2) (fun c d j => .inr (c ++ [-8], fun nm => - d nm, j)) else .inl (tok b m i).2.2.1) := by
  unfold gOne
  rw [h, if_neg (by decide), if_neg (by decide), if_pos rfl]
theorem gO_par (h : (tok b m i).1 = 40) : gOne b m can o1 e1 i = (if can = true then pBind (e1 (tok b m i).2.2.2) (fun c d j => if (tok b m j).1 = 41 then .inr (c, d, (tok b m j).2.2.2) else .inl (tok b m j).2.2.1) else .inl (tok b m i).2.2.1) := by
  unfold gOne
  rw [h, if_neg (by decide), if_neg (by decide), if_neg (by decide), if_pos rfl]
theorem gO_no (h1 : (tok b m i).1 ≠ 1) (h2 : (tok b m i).1 ≠ 2) (h3 : (tok b m i).1 ≠ 45) (h4 : (tok b m i).1 ≠ 40) : gOne b m can o1 e1 i = .inl (tok b m i).2.2.1 := by
  unfold gOne
  rw [if_neg h1, if_neg h2, if_neg h3, if_neg h4]
theorem gM_0 (h : (tok b m i).1 = 45) : gOne b m false o1 e1 i = .inl (tok b m i).2.2.1 := by rw [gO_min h, if_neg (by decide)]
theorem gM_1 (h : (tok b m i).1 = 45) (hs : o1 (tok b m i).2.2.2 = .inl q) : gOne b m true o1 e1 i = .inl q := by rw [gO_min h, if_pos rfl, hs]; rfl
theorem gM_2 (h : (tok b m i).1 = 45) (hs : o1 (tok b m i).2.2.2 = .inr (c, d, j)) : gOne b m true o1 e1 i = .inr (c ++ [-8], fun nm => - d nm, j) := by rw [gO_min h, if_pos rfl, hs]; rfl
theorem gP_0 (h : (tok b m i).1 = 40) : gOne b m false o1 e1 i = .inl (tok b m i).2.2.1 := by rw [gO_par h, if_neg (by decide)]
theorem gP_1 (h : (tok b m i).1 = 40) (hs : e1 (tok b m i).2.2.2 = .inl q) : gOne b m true o1 e1 i = .inl q := by rw [gO_par h, if_pos rfl, hs]; rfl
theorem gP_2 (h : (tok b m i).1 = 40) (hs : e1 (tok b m i).2.2.2 = .inr (c, d, j)) (h41 : ¬ (tok b m j).1 = 41) : gOne b m true o1 e1 i = .inl (tok b m j).2.2.1 := by rw [gO_par h, if_pos rfl, hs]; exact if_neg h41
theorem gP_3 (h : (tok b m i).1 = 40) (hs : e1 (tok b m i).2.2.2 = .inr (c, d, j)) (h41 : (tok b m j).1 = 41) : gOne b m true o1 e1 i = .inr (c, d, (tok b m j).2.2.2) := by rw [gO_par h, if_pos rfl, hs]; exact if_pos h41
end GO
section GN
variable {can : Bool} {n1 one : PF} {q : Nat} {c : List Int32} {d : Nms → Int32}
theorem gN_not (h : (tok b m i).1 = 8) : gNot b m can n1 one i = (if can = true then pBind (n1 (tok b m i).2.2.2) (fun c d j => .inr (c ++ [-7], fun nm => b2 (d nm = 0), j)) else .inl (tok b m i).2.2.1) := by
  unfold gNot
  rw [if_pos h]
theorem gN_0 (h : (tok b m i).1 = 8) : gNot b m false n1 one i = .inl (tok b m i).2.2.1 := by rw [gN_not h, if_neg (by decide)]
theorem gN_1 (h : (tok b m i).1 = 8) (hs : n1 (tok b m i).2.2.2 = .inl q) : gNot b m true n1 one i = .inl q := by rw [gN_not h, if_pos rfl, hs]; rfl
theorem gN_2 (h : (tok b m i).1 = 8) (hs : n1 (tok b m i).2.2.2 = .inr (c, d, j)) : gNot b m true n1 one i = .inr (c ++ [-7], fun nm => b2 (d nm = 0), j) := by rw [gN_not h, if_pos rfl, hs]; rfl
theorem gS_0 (h : ¬ (tok b m i).1 = 8) (hs : gSum b m one i = .inl q) : gNot b m can n1 one i = .inl q := by
  unfold gNot
  rw [if_neg h, hs]
  rfl
theorem gS_1 (h : ¬ (tok b m i).1 = 8) (hs : gSum b m one i = .inr (c, d, j)) (ho : oCmp (tok b m j).1 = none) : gNot b m can n1 one i = .inr (c, d, j) := by
  unfold gNot
  rw [if_neg h, hs]
  simp only [pBind, ho]
theorem gS_2 {o : Int32 × (Int32 → Int32 → Int32)} (h : ¬ (tok b m i).1 = 8) (hs : gSum b m one i = .inr (c, d, j)) (ho : oCmp (tok b m j).1 = some o) (h2 : gSum b m one (tok b m j).2.2.2 = .inl q) : gNot b m can n1 one i = .inl q := by
  unfold gNot
  rw [if_neg h, hs]
  simp only [pBind, ho, h2]
theorem gS_3 {o : Int32 × (Int32 → Int32 → Int32)} {c2 : List Int32} {d2 : Nms → Int32} {j2 : Nat} (h : ¬ (tok b m i).1 = 8) (hs : gSum b m one i = .inr (c, d, j)) (ho : oCmp (tok b m j).1 = some o) (h2 : gSum b m one (tok b m j).2.2.2 = .inr (c2, d2, j2)) : gNot b m can n1 one i = .inr (c ++ c2 ++ [o.1], fun nm => o.2 (d nm) (d2 nm), j2) := by
  unfold gNot
  rw [if_neg h, hs]
  simp only [pBind, ho, h2]
end GN
end RY0
