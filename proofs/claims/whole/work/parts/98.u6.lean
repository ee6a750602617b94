section C36
variable {G : Gx} {sc : Nat → Nat → Prop} {n : Nat} {S : Nat → Nat × Nat} {x : Nat} {b : Nat → Int32} {r m : Nat}
theorem kc_lev : ∀ f, f ≤ 5 → RS G sc n S x r b m (10 + 8 * f) yX9_readOne cX9_readOne 2 (nI (5 - f)) (lev b m f).1 ∧ RS G sc n S x r b m (13 + 8 * f) yX9_readNot cX9_readNot 3 (nI (5 - f)) (lev b m f).2.1 ∧ RS G sc n S x r b m (15 + 8 * f) yX9_readEither cX9_readEither 3 (nI (5 - f)) (lev b m f).2.2 := by
  intro f
  induction f with
  | zero =>
    intro _
    have g1 : GD m (gOne b m false pNo pNo) := gd_one (fun z => by cases z) (fun z => by cases z)
    have g2 : GD m (gNot b m false pNo (gOne b m false pNo pNo)) := gd_not (fun z => by cases z) g1
    have h1 : RS G sc n S x r b m 10 yX9_readOne cX9_readOne 2 (nI 5) (gOne b m false pNo pNo) := kc_readOne (d1 := 0) (de := 0) (fun z => by cases z) (fun _ => rfl) (by decide) (by decide) (by decide)
    have h2 := kc_readTerm h1 g1 (by decide)
    have h3 := kc_readSum h2 (gd_term g1) (by decide)
    have h4 : RS G sc n S x r b m 13 yX9_readNot cX9_readNot 3 (nI 5) (gNot b m false pNo (gOne b m false pNo pNo)) := kc_readNot (ds := 12) (dn := 0) h3 (gd_sum g1) (fun z => by cases z) (fun _ => rfl) (by decide) (by decide) (by decide)
    have h5 := kc_readBoth h4 g2 (by decide)
    exact ⟨h1, h4, kc_readEither h5 (gd_both g2) (by decide)⟩
  | succ f ih =>
    intro hf
    obtain ⟨i1, i2, i3⟩ := ih (by omega)
    obtain ⟨l1, l2, l3⟩ := gd_lev (b := b) (m := m) f
    have eo : 5 - f = 5 - (f + 1) + 1 := by omega
    rw [eo] at i1 i2 i3
    have g1 : GD m (gOne b m true (lev b m f).1 (lev b m f).2.2) := gd_one (fun _ => l1) (fun _ => l3)
    have g2 : GD m (gNot b m true (lev b m f).2.1 (gOne b m true (lev b m f).1 (lev b m f).2.2)) := gd_not (fun _ => l2) g1
    have h1 : RS G sc n S x r b m (10 + 8 * (f + 1)) yX9_readOne cX9_readOne 2 (nI (5 - (f + 1))) (gOne b m true (lev b m f).1 (lev b m f).2.2) := kc_readOne (d1 := 10 + 8 * f) (de := 15 + 8 * f) (fun _ => ⟨by omega, l1, i1, l3, i3⟩) (fun z => absurd rfl z) (by omega) (by omega) (by omega)
    have h2 := kc_readTerm h1 g1 (by omega)
    have h3 := kc_readSum h2 (gd_term g1) (by omega)
    have h4 : RS G sc n S x r b m (13 + 8 * (f + 1)) yX9_readNot cX9_readNot 3 (nI (5 - (f + 1))) (gNot b m true (lev b m f).2.1 (gOne b m true (lev b m f).1 (lev b m f).2.2)) := kc_readNot (ds := 10 + 8 * (f + 1) + 1 + 1) (dn := 13 + 8 * f) h3 (gd_sum g1) (fun _ => ⟨by omega, l2, i2⟩) (fun z => absurd rfl z) (by omega) (by omega) (by omega)
    have h5 := kc_readBoth h4 g2 (by omega)
    have h6 := kc_readEither h5 (gd_both g2) (by omega)
    refine ⟨h1, h4, ?_⟩
    rw [show 15 + 8 * (f + 1) = 13 + 8 * (f + 1) + 1 + 1 by omega]
    exact h6
end C36
