section RG4
variable {A : Abs}
theorem zImg_13 {p : Nat} (h : p < 2) : (zImg A).1 13 p = A.1 0 p ∧ (zImg A).1 13 (2 + p) = A.1 1 p ∧ (zImg A).1 13 (6 + p) = A.1 3 p := by
  rcases (by omega : p = 0 ∨ p = 1) with rfl | rfl
  all_goals exact ⟨rfl, rfl, rfl⟩
theorem zImg_14 {q : Nat} (h : q < 6) : (zImg A).1 14 q = A.1 6 q ∧ (zImg A).1 14 (6 + q) = A.1 7 q := by
  rcases (by omega : q = 0 ∨ q = 1 ∨ q = 2 ∨ q = 3 ∨ q = 4 ∨ q = 5) with rfl | rfl | rfl | rfl | rfl | rfl
  all_goals exact ⟨rfl, rfl⟩
theorem rng3_image (hg : RNG3 A) : RNG3 (zImg A) := by
  obtain ⟨⟨g1, g2, g3, g4, g5, g6, g7, g8⟩, k1, k2⟩ := hg
  obtain ⟨c, hc, e, ez0⟩ := cnt_e g1
  have he : ∀ b k, ¬ (13 ≤ b ∧ b ≤ 15) → (zImg A).1 b k = A.1 b k := fun b k z => zImg_o z
  have ez : zcnt (zImg A) = zcnt A := by show i2n _ = i2n _; rw [he 8 0 (by decide)]
  have e10 := he 10 0 (by decide)
  obtain ⟨a1, a2, a3, a4, a5, a6⟩ := g1
  refine ⟨⟨⟨fun p hp => ?_, fun p hp => ?_, fun q hq => ?_, ?_, fun s hs => ?_, ?_⟩, fun p hp => ?_, ?_, fun q hq => ?_, ?_, fun s hs => ?_, ?_, fun i hi => ?_⟩, fun q hq => ?_, ?_⟩
  · rw [he 0 p (by decide)]; exact a1 p hp
  · rw [he 3 p (by decide)]; exact a2 p hp
  · rw [he 7 q (by decide)]; exact a3 q hq
  · rw [he 8 0 (by decide)]; exact a4
  · rw [he 16 s (by decide), he 18 s (by decide)]; exact a5 s hs
  · rw [e10, he 9 0 (by decide)]; exact a6
  · rw [he 1 p (by decide)]; exact g2 p hp
  · rw [he 4 0 (by decide)]; exact g3
  · rw [he 5 q (by decide), he 6 q (by decide)]; exact g4 q (by rw [← ez]; exact hq)
  · rw [he 12 0 (by decide)]; exact g5
  · rw [he 16 s (by decide), he 17 s (by decide)]; exact g6 s hs
  · rw [ez, e10]
    refine Or.inr ⟨⟨c, by omega, show A.1 8 0 = nI c from e⟩, fun p hp => ?_, fun p hp => ?_, fun p hp => ?_, fun q hq => ?_, fun q hq => ?_, g3, ?_⟩
    · rw [(zImg_13 hp).1]; exact a1 p hp
    · rw [(zImg_13 hp).2.1]; exact g2 p hp
    · rw [(zImg_13 hp).2.2]; exact a2 p hp
    · rw [(zImg_14 (by omega)).1]; exact k1 q (by omega)
    · rw [(zImg_14 hq).2]; exact a3 q hq
    · obtain ⟨k, _, _, e1, r, hr, er⟩ := a6
      exact ⟨r, by rw [e1, show i2n (nI k) = k from nI_clamp (by omega)]; exact hr, er⟩
  · rw [he 12 0 (by decide)] at hi
    rw [he 11 i (by decide)]
    exact g8 i hi
  · rw [he 6 q (by decide)]; exact k1 q hq
  · refine Or.inr fun q hq => ?_
    rw [(zImg_14 hq).1]
    exact k1 q hq
end RG4
