section RG6
variable {A B : Abs}
/-- what is so of every state stays so, row by row -/
theorem rng3_gen (hg : RNG3 A) (h0 : ∀ p, p < 2 → cv (B.1 0 p)) (h1 : ∀ p, p < 2 → s_within2 0 999 (B.1 1 p)) (h3 : ∀ p, p < 2 → B.1 3 p = -1 ∨ cv (B.1 3 p)) (h4 : s_within2 0 99 (B.1 4 0)) (h5 : ∀ k, B.1 5 k = A.1 5 k) (h6 : ∀ q, q < 6 → s_within2 0 9 (B.1 6 q)) (h7 : ∀ q, q < 6 → cv (B.1 7 q)) (h8 : B.1 8 0 = A.1 8 0)
    (h9 : ∃ c, 1 ≤ c ∧ c ≤ 6 ∧ B.1 10 0 = nI c ∧ i2n (A.1 10 0) ≤ c ∧ ∃ r, r < c ∧ B.1 9 0 = nI r) (h11 : ∀ i, i < i2n (B.1 12 0) → s_within2 0 255 (B.1 11 i)) (h12 : ∃ m, m ≤ 160 ∧ B.1 12 0 = nI m) (h13 : ∀ b k, 13 ≤ b → b ≤ 15 → B.1 b k = A.1 b k)
    (h16 : ∀ s, s < 4 → B.1 16 s = 0 ∨ (B.1 16 s = 1 ∧ ∃ N, N ≤ 40 ∧ B.1 18 s = nI N)) (h17 : ∀ s, s < 4 → B.1 16 s = 1 → s_within2 0 2 (B.1 17 s)) : RNG3 B := by
  obtain ⟨⟨g1, g2, g3, g4, g5, g6, g7, g8⟩, k1, k2⟩ := hg
  have ez : zcnt B = zcnt A := by show i2n _ = i2n _; rw [h8]
  obtain ⟨c, hc, e, ez0⟩ := cnt_e g1
  obtain ⟨t, t1, t6, et, tle, r, hr, er⟩ := h9
  have eti : i2n (B.1 10 0) = t := by rw [et]; exact nI_clamp (by omega)
  refine ⟨⟨⟨h0, h3, h7, by rw [h8]; exact g1.2.2.2.1, h16, t, t1, t6, et, r, hr, er⟩, h1, h4, fun q hq => ⟨by rw [h5]; exact (g4 q (by rw [← ez]; exact hq)).1, h6 q (by omega)⟩, h12, h17, ?_, h11⟩, h6, ?_⟩
  · rw [h13 15 0 (by decide) (by decide), h13 15 1 (by decide) (by decide), h13 15 2 (by decide) (by decide), ez, eti]
    rcases g7 with g7 | ⟨d2, d3, d4, d5, d6, d7, d8, r2, hr2, er2⟩
    · exact Or.inl g7
    · refine Or.inr ⟨d2, fun p hp => ?_, fun p hp => ?_, fun p hp => ?_, fun q hq => ?_, fun q hq => ?_, d8, r2, by omega, er2⟩
      · rw [h13 13 _ (by decide) (by decide)]; exact d3 p hp
      · rw [h13 13 _ (by decide) (by decide)]; exact d4 p hp
      · rw [h13 13 _ (by decide) (by decide)]; exact d5 p hp
      · rw [h13 14 _ (by decide) (by decide)]; exact d6 q hq
      · rw [h13 14 _ (by decide) (by decide)]; exact d7 q hq
  · rw [h13 15 0 (by decide) (by decide)]
    rcases k2 with k2 | k2
    · exact Or.inl k2
    · refine Or.inr fun q hq => ?_
      rw [h13 14 q (by decide) (by decide)]
      exact k2 q hq
theorem tc_of (hg : RNG3 A) : ∃ c, 1 ≤ c ∧ c ≤ 6 ∧ A.1 10 0 = nI c ∧ i2n (A.1 10 0) ≤ c ∧ ∃ r, r < c ∧ A.1 9 0 = nI r := by
  obtain ⟨c, h1, h6, e, r, hr, er⟩ := hg.1.1.2.2.2.2.2
  exact ⟨c, h1, h6, e, by rw [e, show i2n (nI c) = c from nI_clamp (by omega)]; exact Nat.le_refl _, r, hr, er⟩
theorem zUp_c {Q : Int32 → Prop} {row k b j : Nat} {v : Int32} (h : Q (A.1 b j)) (hv : row = b → Q v) : Q ((zUp A row k v).1 b j) := by
  by_cases e : b = row ∧ j = k
  · obtain ⟨rfl, rfl⟩ := e
    rw [zUp_e]
    exact hv rfl
  · rw [zUp_n e]
    exact h
/-- one number changed -/
theorem rng3_up {row k : Nat} {v : Int32} (hg : RNG3 A) (c0 : row = 0 → cv v) (c1 : row = 1 → s_within2 0 999 v) (c3 : row = 3 → v = -1 ∨ cv v) (c4 : row = 4 → s_within2 0 99 v) (c6 : row = 6 → s_within2 0 9 v) (c7 : row = 7 → cv v) (c9 : row = 9 → ∃ r, r < i2n (A.1 10 0) ∧ v = nI r) (cN : row ≠ 5 ∧ row ≠ 8 ∧ ¬ (10 ≤ row ∧ row ≤ 18)) : RNG3 (zUp A row k v) := by
  obtain ⟨⟨g1, g2, g3, g4, g5, g6, g7, g8⟩, k1, k2⟩ := id hg
  have hn : ∀ b j, b = 5 ∨ b = 8 ∨ (10 ≤ b ∧ b ≤ 18) → (zUp A row k v).1 b j = A.1 b j := fun b j z => zUp_n (by omega)
  refine rng3_gen hg (fun p hp => zUp_c (g1.1 p hp) c0) (fun p hp => zUp_c (g2 p hp) c1) (fun p hp => zUp_c (Q := fun z => z = -1 ∨ cv z) (g1.2.1 p hp) c3) (zUp_c g3 c4) (fun k => hn _ _ (by omega)) (fun q hq => zUp_c (k1 q hq) c6) (fun q hq => zUp_c (g1.2.2.1 q hq) c7) (hn _ _ (by omega)) ?_ (fun i hi => ?_) ?_ (fun b j z1 z2 => hn _ _ (by omega)) (fun s hs => ?_) (fun s hs => ?_)
  · obtain ⟨c, h1, h6, e, hle, r, hr, er⟩ := tc_of hg
    refine ⟨c, h1, h6, (hn _ _ (by omega)).trans e, hle, ?_⟩
    refine zUp_c (Q := fun z => ∃ r, r < c ∧ z = nI r) ⟨r, hr, er⟩ (fun z => ?_)
    obtain ⟨r2, h2, e2⟩ := c9 z
    exact ⟨r2, by omega, e2⟩
  · rw [hn 12 0 (by omega)] at hi
    rw [hn 11 i (by omega)]
    exact g8 i hi
  · rw [hn 12 0 (by omega)]; exact g5
  · rw [hn 16 s (by omega), hn 18 s (by omega)]; exact g1.2.2.2.2.1 s hs
  · rw [hn 16 s (by omega), hn 17 s (by omega)]; exact g6 s hs
theorem rng3_set {what s v : Int32} (hg : RNG3 A) : RNG3 (zr_set A what s v).2 := by
  unfold zr_set
  split
  · rename_i h
    obtain ⟨hw, hz, hlo, hhi⟩ := h
    obtain ⟨w, hw6, rfl⟩ := n_of (m := 6) (by decide) hw
    rw [show i2n (nI w) = w from nI_clamp (by omega)] at hz hlo hhi ⊢
    rcases (by omega : w = 0 ∨ w = 1 ∨ w = 2 ∨ w = 3 ∨ w = 4 ∨ w = 5 ∨ w = 6) with rfl | rfl | rfl | rfl | rfl | rfl | rfl
    · rw [if_neg (by decide)]
      exact rng3_up (row := 0) hg (fun _ => ⟨hlo, hhi⟩) (fun e => absurd e (by decide)) (fun e => absurd e (by decide)) (fun e => absurd e (by decide)) (fun e => absurd e (by decide)) (fun e => absurd e (by decide)) (fun e => absurd e (by decide)) (by decide)
    · rw [if_neg (by decide)]
      exact rng3_up (row := 1) hg (fun e => absurd e (by decide)) (fun _ => ⟨hlo, hhi⟩) (fun e => absurd e (by decide)) (fun e => absurd e (by decide)) (fun e => absurd e (by decide)) (fun e => absurd e (by decide)) (fun e => absurd e (by decide)) (by decide)
    · rw [if_neg (by decide)]
      exact rng3_up (row := 2) hg (fun e => absurd e (by decide)) (fun e => absurd e (by decide)) (fun e => absurd e (by decide)) (fun e => absurd e (by decide)) (fun e => absurd e (by decide)) (fun e => absurd e (by decide)) (fun e => absurd e (by decide)) (by decide)
    · rw [if_neg (by decide)]
      have hlo : (-1 : Int) ≤ v.toInt := hlo
      have hhi : v.toInt ≤ 24 := hhi
      refine rng3_up (row := 3) hg (fun e => absurd e (by decide)) (fun e => absurd e (by decide)) (fun _ => ?_) (fun e => absurd e (by decide)) (fun e => absurd e (by decide)) (fun e => absurd e (by decide)) (fun e => absurd e (by decide)) (by decide)
      by_cases e : v.toInt = -1
      · exact Or.inl (i_eq.mpr (e.trans rfl))
      · exact Or.inr ⟨by omega, hhi⟩
    · rw [if_neg (by decide)]
      exact rng3_up (row := 6) hg (fun e => absurd e (by decide)) (fun e => absurd e (by decide)) (fun e => absurd e (by decide)) (fun e => absurd e (by decide)) (fun _ => ⟨hlo, hhi⟩) (fun e => absurd e (by decide)) (fun e => absurd e (by decide)) (by decide)
    · rw [if_neg (by decide)]
      exact rng3_up (row := 7) hg (fun e => absurd e (by decide)) (fun e => absurd e (by decide)) (fun e => absurd e (by decide)) (fun e => absurd e (by decide)) (fun e => absurd e (by decide)) (fun _ => ⟨hlo, hhi⟩) (fun e => absurd e (by decide)) (by decide)
    · rw [if_pos rfl]
      exact rng3_up (row := 4) hg (fun e => absurd e (by decide)) (fun e => absurd e (by decide)) (fun e => absurd e (by decide)) (fun _ => ⟨hlo, hhi⟩) (fun e => absurd e (by decide)) (fun e => absurd e (by decide)) (fun e => absurd e (by decide)) (by decide)
  · exact hg
theorem rng3_force {t : Int32} (hg : RNG3 A) : RNG3 (zr_force A t).2 := by
  obtain ⟨c, h1, h6, e, -⟩ := tc_of hg
  unfold zr_force
  split
  · exact hg
  · rename_i h
    have h := Classical.not_not.mp h
    rw [e, tm1 h1 h6] at h
    obtain ⟨r, hr, rfl⟩ : ∃ r, r < c ∧ t = nI r := ⟨t.toInt.toNat, by omega, by rw [i_eq, nI_toInt (by omega)]; omega⟩
    exact rng3_up (row := 9) hg (fun e => absurd e (by decide)) (fun e => absurd e (by decide)) (fun e => absurd e (by decide)) (fun e => absurd e (by decide)) (fun e => absurd e (by decide)) (fun e => absurd e (by decide)) (fun _ => ⟨r, by rw [e, show i2n (nI c) = c from nI_clamp (by omega)]; exact hr, rfl⟩) (by decide)
theorem rng3_cell {s i v : Int32} (hg : RNG3 A) : RNG3 (zr_cell A s i v).2 := by
  unfold zr_cell
  split
  · exact hg
  · split
    · exact hg
    · split
      · exact hg
      · exact rng3_up (row := 20 + i2n s) hg (fun e => absurd e (by omega)) (fun e => absurd e (by omega)) (fun e => absurd e (by omega)) (fun e => absurd e (by omega)) (fun e => absurd e (by omega)) (fun e => absurd e (by omega)) (fun e => absurd e (by omega)) (by omega)
/-- only sheets changed -/
theorem rng3_sh (hg : RNG3 A) (he : ∀ b k, b < 16 → B.1 b k = A.1 b k) (h16 : ∀ s, s < 4 → B.1 16 s = 0 ∨ (B.1 16 s = 1 ∧ ∃ N, N ≤ 40 ∧ B.1 18 s = nI N)) (h17 : ∀ s, s < 4 → B.1 16 s = 1 → s_within2 0 2 (B.1 17 s)) : RNG3 B := by
  obtain ⟨⟨g1, g2, g3, g4, g5, g6, g7, g8⟩, k1, k2⟩ := id hg
  refine rng3_gen hg (fun p hp => ?_) (fun p hp => ?_) (fun p hp => ?_) ?_ (fun k => he _ _ (by decide)) (fun q hq => ?_) (fun q hq => ?_) (he _ _ (by decide)) ?_ (fun i hi => ?_) ?_ (fun b j z1 z2 => he _ _ (by omega)) h16 h17
  · rw [he 0 p (by decide)]; exact g1.1 p hp
  · rw [he 1 p (by decide)]; exact g2 p hp
  · rw [he 3 p (by decide)]; exact g1.2.1 p hp
  · rw [he 4 0 (by decide)]; exact g3
  · rw [he 6 q (by decide)]; exact k1 q hq
  · rw [he 7 q (by decide)]; exact g1.2.2.1 q hq
  · rw [he 10 0 (by decide), he 9 0 (by decide)]; exact tc_of hg
  · rw [he 12 0 (by decide)] at hi
    rw [he 11 i (by decide)]
    exact g8 i hi
  · rw [he 12 0 (by decide)]; exact g5
theorem rng3_copy {s i t j nn : Int32} (hg : RNG3 A) : RNG3 (zr_copy A s i t j nn).2 := by
  have hc : ∀ s i t j n : Nat, RNG3 (zCopy A s i t j n) := fun s i t j n => by
    refine rng3_sh hg (fun b k z => zcp_o (by omega)) (fun s hs => ?_) (fun s hs => ?_)
    · rw [zcp_o (by omega), zcp_o (by omega)]; exact hg.1.1.2.2.2.2.1 s hs
    · rw [zcp_o (by omega), zcp_o (by omega)]; exact hg.1.2.2.2.2.2.1 s hs
  unfold zr_copy
  split
  · exact hg
  · split
    · exact hg
    · split
      · exact hg
      · split
        · exact hg
        · exact hc _ _ _ _ _
theorem zSheet_r {s b k N : Nat} {th so nn : Int32} {f : Nat → Int32} : (zSheet A s th so nn N f).1 b k = if b = 16 ∧ k = s then th else if b = 17 ∧ k = s then so else if b = 18 ∧ k = s then nn else if b = 20 + s ∧ k < N then f k else A.1 b k := rfl
theorem rng3_zs {s N : Nat} {th so nn : Int32} {f : Nat → Int32} (hg : RNG3 A) (hth : th = 0 ∨ (th = 1 ∧ ∃ N, N ≤ 40 ∧ nn = nI N)) (hso : th = 1 → s_within2 0 2 so) : RNG3 (zSheet A s th so nn N f) := by
  refine rng3_sh hg (fun b k z => ?_) (fun q hq => ?_) (fun q hq => ?_)
  · rw [zSheet_r, if_neg (by omega), if_neg (by omega), if_neg (by omega), if_neg (by omega)]
  · rw [zSheet_r, zSheet_r]
    by_cases e : q = s
    · rw [if_pos ⟨rfl, e⟩, if_neg (show ¬ ((18 : Nat) = 16 ∧ q = s) by omega), if_neg (show ¬ ((18 : Nat) = 17 ∧ q = s) by omega), if_pos (show (18 : Nat) = 18 ∧ q = s from ⟨rfl, e⟩)]
      exact hth
    · rw [if_neg (by omega), if_neg (by omega), if_neg (by omega), if_neg (by omega), if_neg (by omega), if_neg (by omega), if_neg (by omega), if_neg (by omega)]
      exact hg.1.1.2.2.2.2.1 q hq
  · rw [zSheet_r, zSheet_r]
    by_cases e : q = s
    · rw [if_pos ⟨rfl, e⟩, if_neg (show ¬ ((17 : Nat) = 16 ∧ q = s) by omega), if_pos (show (17 : Nat) = 17 ∧ q = s from ⟨rfl, e⟩)]
      exact hso
    · rw [if_neg (by omega), if_neg (by omega), if_neg (by omega), if_neg (by omega), if_neg (by omega), if_neg (by omega), if_neg (by omega), if_neg (by omega)]
      exact hg.1.2.2.2.2.2.1 q hq
theorem rng3_sheet {s so nn : Int32} (hg : RNG3 A) : RNG3 (zr_sheet A s so nn).2 := by
  unfold zr_sheet
  split
  · exact hg
  · rename_i h
    have h := (Classical.not_not.mp h).2
    split
    · rename_i h0
      split
      · exact hg
      · rename_i h40
        split
        · exact hg
        · rename_i hn0
          rw [i_lt] at h40 hn0
          rw [i_le] at h0
          have e40 : (40 : Int32).toInt = 40 := rfl
          have e0 : (0 : Int32).toInt = 0 := rfl
          refine rng3_zs hg (Or.inr ⟨rfl, ?_⟩) (fun _ => ⟨by omega, by omega⟩)
          obtain ⟨k, hk, e⟩ := n_of (s := nn) (m := 40) (by decide) ⟨by omega, by omega⟩
          exact ⟨k, hk, e⟩
    · exact rng3_zs hg (Or.inl rfl) (fun e => absurd e (by decide))
theorem rng3_film {s r : Int32} (hg : RNG3 A) : RNG3 (zr_film A s r).2 := by
  unfold zr_film
  split
  · exact hg
  · split
    · rename_i h
      obtain ⟨k, N, hk, rfl, h16, hr⟩ := rb_rwy hg.1 h
      rw [show i2n (nI k) = k from nI_clamp (by omega)]
      refine rng3_zs hg (Or.inr ⟨rfl, (z_fin A k).1, Nat.le_trans (fin_le hr) hr.2.1, rfl⟩) (fun _ => ⟨by decide, by decide⟩)
    · exact hg
theorem rng3_play {s : Int32} (hg : RNG3 A) : RNG3 (zr_play A s).2 := by
  unfold zr_play
  split
  · rename_i h
    obtain ⟨k, N, hk, rfl, h16, hr⟩ := rb_rwy hg.1 h
    rw [show i2n (nI k) = k from nI_clamp (by omega)]
    obtain ⟨r1, r2, r3, r4⟩ := rn3_st hg.1.r3 hr (z_fin A k).1 (fin_le hr)
    obtain ⟨⟨g1, g2, g3, g4, g5, g6, g7, g8⟩, k1, k2⟩ := id hg
    generalize z_st A k (z_fin A k).1 = κ at r1 r2 r3 r4 ⊢
    have he : ∀ b k, b ≠ 0 ∧ b ≠ 1 ∧ b ≠ 4 → (zPut A κ).1 b k = A.1 b k := fun b k z => zPut_o z
    refine rng3_gen hg r1.1 r2 r1.2.1 r3 (fun k => he _ _ (by decide)) (fun q hq => ?_) r1.2.2.1 (he _ _ (by decide)) ?_ (fun i hi => ?_) ?_ (fun b j z1 z2 => he _ _ (by omega)) r1.2.2.2.2.1 (fun s hs => ?_)
    · rw [he 6 q (by decide)]; exact k1 q hq
    · rw [he 10 0 (by decide), he 9 0 (by decide)]; exact tc_of hg
    · rw [he 12 0 (by decide)] at hi
      rw [he 11 i (by decide)]
      exact g8 i hi
    · rw [he 12 0 (by decide)]; exact g5
    · rw [he 16 s (by decide), he 17 s (by decide)]; exact g6 s hs
  · exact hg
theorem rng3_zstk {s f : Nat} : ∀ (d k : Nat) (A : Abs) (c : Nat), RNG3 A → RNG3 (zstk s f d k A c).2 := by
  intro d
  induction d with
  | zero => intro k A c h; exact h
  | succ d ih =>
    intro k A c h
    by_cases h3 : f + 3 * k + 3 ≤ zN A s
    · by_cases hr : 0 ≤ (zr_stroke A (A.1 (20 + s) (f + 3 * k)) (A.1 (20 + s) (f + 3 * k + 1)) (A.1 (20 + s) (f + 3 * k + 2))).1
      · rw [zstk_1 h3 hr]; exact ih _ _ _ (rng3_stroke h)
      · rw [zstk_0 h3 hr]; exact ih _ _ _ (rng3_stroke h)
    · rw [zstk_o h3]; exact h
theorem rng3_strokes {s so t nn : Int32} (hg : RNG3 A) : RNG3 (zr_strokes A s so t nn).2 := by
  unfold zr_strokes
  split
  · exact hg
  · split
    · exact hg
    · split
      · exact hg
      · split
        · split
          · exact hg
          · exact hg
        · exact rng3_zstk _ _ _ _ hg
theorem rng3_text (hg : RNG3 A) : RNG3 (zr_text A).2 := by
  obtain ⟨c, h1, h6, e, hle, r, hr, er⟩ := tc_of hg
  have ei : i2n (A.1 10 0) = c := by rw [e]; exact nI_clamp (by omega)
  obtain ⟨⟨g1, g2, g3, g4, g5, g6, g7, g8⟩, k1, k2⟩ := id hg
  unfold zr_text
  split
  · exact hg
  · rename_i hc6
    rw [ei] at hc6 ⊢
    split
    · exact rng3_tape (v := 0) hg (fun b k z1 z2 => zUp_n (by omega)) (by decide) zUp_e (fun i hi => absurd hi (Nat.not_lt_zero _))
    · have he : ∀ b k, b ≠ 10 → b ≠ 12 → (zUp (zUp A 12 0 0) 10 0 (nI (c + 1))).1 b k = A.1 b k := fun b k z1 z2 => (zUp_n (fun e => z1 e.1)).trans (zUp_n (fun e => z2 e.1))
      have e12 : (zUp (zUp A 12 0 0) 10 0 (nI (c + 1))).1 12 0 = 0 := (zUp_n (by decide)).trans zUp_e
      have e10 : (zUp (zUp A 12 0 0) 10 0 (nI (c + 1))).1 10 0 = nI (c + 1) := zUp_e
      refine rng3_gen hg (fun p hp => ?_) (fun p hp => ?_) (fun p hp => ?_) ?_ (fun k => he 5 k (by decide) (by decide)) (fun q hq => ?_) (fun q hq => ?_) (he 8 0 (by decide) (by decide)) ⟨c + 1, by omega, by omega, e10, by omega, r, by omega, (he 9 0 (by decide) (by decide)).trans er⟩ (fun i hi => ?_) ⟨0, by decide, e12⟩ (fun b j z1 z2 => he b j (by omega) (by omega)) (fun s hs => ?_) (fun s hs => ?_)
      · exact (he 0 p (by decide) (by decide)) ▸ g1.1 p hp
      · exact (he 1 p (by decide) (by decide)) ▸ g2 p hp
      · exact (he 3 p (by decide) (by decide)) ▸ g1.2.1 p hp
      · exact (he 4 0 (by decide) (by decide)) ▸ g3
      · exact (he 6 q (by decide) (by decide)) ▸ k1 q hq
      · exact (he 7 q (by decide) (by decide)) ▸ g1.2.2.1 q hq
      · have hi : i < i2n ((zUp (zUp A 12 0 0) 10 0 (nI (c + 1))).1 12 0) := hi
        rw [e12, show i2n 0 = 0 from rfl] at hi
        exact absurd hi (Nat.not_lt_zero _)
      · have := g1.2.2.2.2.1 s hs
        rw [← he 16 s (by decide) (by decide), ← he 18 s (by decide) (by decide)] at this
        exact this
      · have := g6 s hs
        rw [← he 16 s (by decide) (by decide), ← he 17 s (by decide) (by decide)] at this
        exact this
theorem rng3_init : RNG3 zInit := by
  have h0 : ∀ b k, ¬ b = 0 → ¬ b = 1 → ¬ b = 2 → ¬ b = 3 → ¬ b = 10 → ¬ b = 15 → zInit.1 b k = 0 := fun b k z0 z1 z2 z3 z4 z5 => by
    show zT0 b k = 0
    unfold zT0
    rw [if_neg (by omega), if_neg (by omega), if_neg (by omega), if_neg (by omega), if_neg (by omega), if_neg (by omega)]
  have e12 := h0 12 0 (by decide) (by decide) (by decide) (by decide) (by decide) (by decide)
  have e8 := h0 8 0 (by decide) (by decide) (by decide) (by decide) (by decide) (by decide)
  have ez : zcnt zInit = 0 := by show i2n _ = 0; rw [e8]; rfl
  have h2 : ∀ (b : Nat) (v : Int32), zT0 b 0 = v → zT0 b 1 = v → ∀ p, p < 2 → zInit.1 b p = v := fun b v z0 z1 p hp => by
    rcases (by omega : p = 0 ∨ p = 1) with rfl | rfl
    · exact z0
    · exact z1
  refine ⟨⟨⟨fun p hp => ?_, fun p hp => ?_, fun q hq => ?_, ⟨0, by decide, e8⟩, fun s hs => Or.inl (h0 16 s (by decide) (by decide) (by decide) (by decide) (by decide) (by decide)), 1, by decide, by decide, rfl, 0, by decide, h0 9 0 (by decide) (by decide) (by decide) (by decide) (by decide) (by decide)⟩, fun p hp => ?_, ?_, fun q hq => absurd hq (by rw [ez]; exact Nat.not_lt_zero _), ⟨0, by decide, e12⟩, fun s hs z => ?_, Or.inl rfl, fun i hi => absurd hi (by rw [e12, show i2n 0 = 0 from rfl]; exact Nat.not_lt_zero _)⟩, fun q hq => ?_, Or.inl rfl⟩
  · rw [h2 0 12 rfl rfl p hp]; exact ⟨by decide, by decide⟩
  · rw [h2 3 12 rfl rfl p hp]; exact Or.inr ⟨by decide, by decide⟩
  · rw [h0 7 q (by decide) (by decide) (by decide) (by decide) (by decide) (by decide)]; exact ⟨by decide, by decide⟩
  · rw [h2 1 500 rfl rfl p hp]; exact ⟨by decide, by decide⟩
  · rw [h0 4 0 (by decide) (by decide) (by decide) (by decide) (by decide) (by decide)]; exact ⟨by decide, by decide⟩
  · rw [h0 16 s (by decide) (by decide) (by decide) (by decide) (by decide) (by decide)] at z
    exact absurd z (by decide)
  · rw [h0 6 q (by decide) (by decide) (by decide) (by decide) (by decide) (by decide)]; exact ⟨by decide, by decide⟩
end RG6
