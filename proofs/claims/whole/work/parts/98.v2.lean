section RG5
variable {A : Abs}
theorem rng3_back (hg : RNG3 A) : RNG3 (zr_back A).2 := by
  unfold zr_back
  by_cases h15 : A.1 15 0 = -1
  · rw [if_pos h15]; exact hg
  · rw [if_neg h15]
    show RNG3 (zBck A)
    obtain ⟨⟨g1, g2, g3, g4, g5, g6, g7, g8⟩, k1, k2⟩ := hg
    obtain ⟨⟨d, d1, d2⟩, d3, d4, d5, d6, d7, d8, r, hr, er⟩ := g7.resolve_left h15
    have k3 := k2.resolve_left h15
    obtain ⟨c, hc, e, ez0⟩ := cnt_e g1
    have he : ∀ b k, b = 5 ∨ 10 ≤ b → (zBck A).1 b k = A.1 b k := fun b k z => zBck_o z
    have e80 : (zBck A).1 8 0 = nI d := d2
    have ez : zcnt (zBck A) = d := by show i2n _ = d; rw [e80]; exact nI_clamp (by omega)
    have e10 := he 10 0 (by decide)
    obtain ⟨a1, a2, a3, a4, a5, a6⟩ := g1
    obtain ⟨kk, kk1, kk6, ek, r0, hr0, er0⟩ := a6
    have hkk : i2n (A.1 10 0) = kk := by rw [ek]; exact nI_clamp (by omega)
    refine ⟨⟨⟨fun p hp => ?_, fun p hp => ?_, fun q hq => ?_, ⟨d, by omega, e80⟩, fun s hs => ?_, ?_⟩, fun p hp => ?_, ?_, fun q hq => ?_, ?_, fun s hs => ?_, ?_, fun i hi => ?_⟩, fun q hq => ?_, ?_⟩
    · rw [(zBck_0 hp).1]; exact d3 p hp
    · rw [(zBck_0 hp).2.2.2]; exact d5 p hp
    · rw [(zBck_67 hq).2]; exact d7 q hq
    · rw [he 16 s (by decide), he 18 s (by decide)]; exact a5 s hs
    · exact ⟨kk, kk1, kk6, e10.trans ek, r, by omega, er⟩
    · rw [(zBck_0 hp).2.1]; exact d4 p hp
    · exact d8
    · rw [ez] at hq
      rw [he 5 q (by decide), (zBck_67 (by omega)).1]
      exact ⟨(g4 q (by omega)).1, k3 q (by omega)⟩
    · rw [he 12 0 (by decide)]; exact g5
    · rw [he 16 s (by decide), he 17 s (by decide)]; exact g6 s hs
    · rw [he 15 0 (by decide), he 15 1 (by decide), he 15 2 (by decide), ez, e10]
      refine Or.inr ⟨⟨d, Nat.le_refl _, d2⟩, fun p hp => ?_, fun p hp => ?_, fun p hp => ?_, fun q hq => ?_, fun q hq => ?_, d8, r, hr, er⟩
      · rw [he 13 _ (by decide)]; exact d3 p hp
      · rw [he 13 _ (by decide)]; exact d4 p hp
      · rw [he 13 _ (by decide)]; exact d5 p hp
      · rw [he 14 _ (by decide)]; exact k3 q (by omega)
      · rw [he 14 _ (by decide)]; exact d7 q hq
    · rw [he 12 0 (by decide)] at hi
      rw [he 11 i (by decide)]
      exact g8 i hi
    · rw [(zBck_67 hq).1]; exact k3 q hq
    · rw [he 15 0 (by decide)]
      refine Or.inr fun q hq => ?_
      rw [he 14 q (by decide)]
      exact k3 q hq
end RG5
