section RG3
variable {A B : Abs}
/-- what is so of every state stays so where only the tape changes -/
theorem rng3_tape {v : Nat} (hg : RNG3 A) (he : ∀ b k, b ≠ 11 → b ≠ 12 → B.1 b k = A.1 b k) (hv : v ≤ 160) (h12 : B.1 12 0 = nI v) (h11 : ∀ i, i < v → s_within2 0 255 (B.1 11 i)) : RNG3 B := by
  obtain ⟨⟨g1, g2, g3, g4, g5, g6, g7, g8⟩, k1, k2⟩ := hg
  have ez : zcnt B = zcnt A := by show i2n _ = i2n _; rw [he 8 0 (by decide) (by decide)]
  have e10 := he 10 0 (by decide) (by decide)
  refine ⟨⟨?_, fun p hp => ?_, ?_, fun q hq => ?_, ⟨v, hv, h12⟩, fun s hs => ?_, ?_, fun i hi => ?_⟩, fun q hq => ?_, ?_⟩
  · obtain ⟨a1, a2, a3, a4, a5, a6⟩ := g1
    refine ⟨fun p hp => ?_, fun p hp => ?_, fun q hq => ?_, ?_, fun s hs => ?_, ?_⟩
    · rw [he 0 p (by decide) (by decide)]; exact a1 p hp
    · rw [he 3 p (by decide) (by decide)]; exact a2 p hp
    · rw [he 7 q (by decide) (by decide)]; exact a3 q hq
    · rw [he 8 0 (by decide) (by decide)]; exact a4
    · rw [he 16 s (by decide) (by decide), he 18 s (by decide) (by decide)]; exact a5 s hs
    · rw [e10, he 9 0 (by decide) (by decide)]; exact a6
  · rw [he 1 p (by decide) (by decide)]; exact g2 p hp
  · rw [he 4 0 (by decide) (by decide)]; exact g3
  · rw [he 5 q (by decide) (by decide), he 6 q (by decide) (by decide)]; exact g4 q (by rw [← ez]; exact hq)
  · rw [he 16 s (by decide) (by decide), he 17 s (by decide) (by decide)]; exact g6 s hs
  · rw [he 15 0 (by decide) (by decide), he 15 1 (by decide) (by decide), he 15 2 (by decide) (by decide), ez, e10]
    rcases g7 with g7 | ⟨d2, d3, d4, d5, d6, d7, d8, d9⟩
    · exact Or.inl g7
    · refine Or.inr ⟨d2, fun p hp => ?_, fun p hp => ?_, fun p hp => ?_, fun q hq => ?_, fun q hq => ?_, d8, d9⟩
      · rw [he 13 _ (by decide) (by decide)]; exact d3 p hp
      · rw [he 13 _ (by decide) (by decide)]; exact d4 p hp
      · rw [he 13 _ (by decide) (by decide)]; exact d5 p hp
      · rw [he 14 _ (by decide) (by decide)]; exact d6 q hq
      · rw [he 14 _ (by decide) (by decide)]; exact d7 q hq
  · rw [h12, show i2n (nI v) = v from nI_clamp (by omega)] at hi
    exact h11 i hi
  · rw [he 6 q (by decide) (by decide)]; exact k1 q hq
  · rw [he 15 0 (by decide) (by decide)]
    rcases k2 with k2 | k2
    · exact Or.inl k2
    · refine Or.inr fun q hq => ?_
      rw [he 14 q (by decide) (by decide)]
      exact k2 q hq
theorem rng3_feed {v : Int32} (hg : RNG3 A) : RNG3 (zr_feed A v).2 := by
  obtain ⟨m, hm, e⟩ := hg.1.2.2.2.2.1
  have hmi : i2n (A.1 12 0) = m := by rw [e]; exact nI_clamp (by omega)
  unfold zr_feed
  split
  · exact hg
  · rename_i h
    have h := Classical.not_not.mp h
    rw [hmi]
    split
    · exact hg
    · rename_i h6
      refine rng3_tape (v := m + 1) hg (fun b k z1 z2 => (zUp_n (by omega)).trans (zUp_n (by omega))) (by omega) zUp_e (fun i hi => ?_)
      rw [zUp_n (by omega)]
      by_cases ei : i = m
      · rw [ei, zUp_e]; exact h
      · rw [zUp_n (by omega)]
        exact hg.1.2.2.2.2.2.2.2 i (by rw [hmi]; omega)
end RG3
