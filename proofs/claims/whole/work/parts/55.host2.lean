noncomputable def zCopy (A : Abs) (s i t j n : Nat) : Abs := (fun b k => if b = 20 + t ∧ j ≤ k ∧ k < j + n then A.1 (20 + s) (k - j + i) else A.1 b k, A.2)
noncomputable def zr_copy (A : Abs) (s i t j nn : Int32) : Int32 × Abs := by
  classical
  exact if ¬ (isSh s ∧ isSh t) then (-2, A) else if A.1 16 (i2n s) = 0 ∨ A.1 16 (i2n t) = 0 then (-11, A) else if ¬ A.1 17 (i2n s) = A.1 17 (i2n t) then (-13, A) else
    if ¬ (0 ≤ nn.toInt ∧ 0 ≤ i.toInt ∧ 0 ≤ j.toInt ∧ i.toInt + nn.toInt ≤ zN A (i2n s) ∧ j.toInt + nn.toInt ≤ zN A (i2n t)) then (-12, A) else (nn, zCopy A (i2n s) (i2n i) (i2n t) (i2n j) (i2n nn))
theorem zcp_o {A : Abs} {s i t j n b k : Nat} (h : ¬ (b = 20 + t ∧ j ≤ k ∧ k < j + n)) : (zCopy A s i t j n).1 b k = A.1 b k := if_neg h
theorem zcp_e {A : Abs} {s i t j n k : Nat} (h : k < n) : (zCopy A s i t j n).1 (20 + t) (j + k) = A.1 (20 + s) (i + k) := by
  show (if 20 + t = 20 + t ∧ j ≤ j + k ∧ j + k < j + n then A.1 (20 + s) (j + k - j + i) else _) = _
  rw [if_pos ⟨rfl, by omega, by omega⟩, show j + k - j + i = i + k by omega]
theorem copy_abs {o a s i t j n : Nat} {M M' : Nat → Nat → Int32} {A : Abs} (hs : s < 4) (ht : t < 4) (hi : i + n ≤ 40) (hj : j + n ≤ 40) (hA : rABSg o a M A) (hz : ∀ q, q < n → M' (o + 18) (40 * t + (j + q)) = M (o + 18) (40 * s + (i + q)))
    (hk : ∀ b k, ¬ (b = o + 18 ∧ 40 * t + j ≤ k ∧ k < 40 * t + j + n) → M' b k = M b k) : rABSg o a M' (zCopy A s i t j n) := by
  refine rABS_chg hA (fun b k x l hl => ?_) (funext fun k => zcp_o (by omega)) (zcp_o (by omega)) (zcp_o (by omega)) rfl (funext fun k => hk _ _ (by omega)) (funext fun k => hk _ _ (by omega)) (funext fun k => hk _ _ (by omega)) (hk _ _ (by omega))
  by_cases e : b = 20 + t ∧ j ≤ k ∧ k < j + n
  · obtain ⟨rfl, h1, h2⟩ := e
    obtain ⟨q, rfl⟩ : ∃ q, k = j + q := ⟨k - j, by omega⟩
    obtain ⟨rfl, rfl⟩ : x = o + 18 ∧ l = 40 * t + (j + q) := by unfold LOC at hl; omega
    exact Or.inl ((hz q (by omega)).trans ((hA.im hs (by omega)).trans (zcp_e (by omega)).symm))
  · refine Or.inr ⟨hk _ _ (fun z => e ?_), zcp_o e⟩
    unfold LOC at hl; omega
/-- strokes out of a sheet, from the k-th on, d of them, so many having come -/
noncomputable def zstk (s at' : Nat) : Nat → Nat → Abs → Nat → Int32 × Abs
  | 0, _, A, c => (nI c, A)
  | d + 1, k, A, c => by
    classical
    exact if at' + 3 * k + 3 ≤ zN A s then zstk s at' d (k + 1) (zr_stroke A (A.1 (20 + s) (at' + 3 * k)) (A.1 (20 + s) (at' + 3 * k + 1)) (A.1 (20 + s) (at' + 3 * k + 2))).2
      (c + if 0 ≤ (zr_stroke A (A.1 (20 + s) (at' + 3 * k)) (A.1 (20 + s) (at' + 3 * k + 1)) (A.1 (20 + s) (at' + 3 * k + 2))).1 then 1 else 0) else (-12, A)
noncomputable def zr_strokes (A : Abs) (s so at' n : Int32) : Int32 × Abs := by
  classical
  exact if ¬ (isSh s ∧ (0 ≤ so.toInt ∧ so.toInt ≤ 2) ∧ (0 ≤ n.toInt ∧ n.toInt ≤ 6)) then (-2, A) else if A.1 16 (i2n s) = 0 then (-11, A) else if ¬ A.1 17 (i2n s) = so then (-13, A) else
    if at'.toInt < 0 then (if n = 0 then (0, A) else (-12, A)) else zstk (i2n s) (i2n at') (i2n n) 0 A 0
noncomputable def zr_film (A : Abs) (s r : Int32) : Int32 × Abs := by
  classical
  exact if ¬ (isSh s ∧ isSh r) then (-2, A) else if z_rb A r = 0 then (nI (z_fin A (i2n r)).1, zSheet A (i2n s) 1 0 (nI (z_fin A (i2n r)).1) (z_fin A (i2n r)).1 (fun j => z_to A (i2n r) j)) else (z_rb A r, A)
theorem stroke_o {A : Abs} {kind number aim : Int32} {b k : Nat} (h : b ≠ 5 ∧ b ≠ 6 ∧ b ≠ 7 ∧ b ≠ 8) : (zr_stroke A kind number aim).2.1 b k = A.1 b k := by
  unfold zr_stroke
  split
  · rfl
  · split
    · rfl
    · exact (zUp_n (by omega)).trans ((zUp_n (by omega)).trans ((zUp_n (by omega)).trans (zUp_n (by omega))))
theorem sr_fin_le {E : RuleF} {qk hm kd nb am : Nat → Int32} {κ : Crt} : ∀ k j, (sr_fin E qk hm kd nb am κ k j).1 ≤ j + k := by
  intro k
  induction k with
  | zero => intro j; exact Nat.le_refl _
  | succ k ih =>
    intro j
    show (if sr_w E qk hm kd nb am κ j then (j + 1, true) else sr_fin E qk hm kd nb am κ k (j + 1)).1 ≤ _
    split
    · show j + 1 ≤ _; omega
    · have := ih (j + 1); omega
theorem zsh_zsh {A : Abs} {s : Nat} {th so nn : Int32} {N : Nat} {f g : Nat → Int32} : zSheet (zSheet A s th so nn N f) s th so nn N g = zSheet A s th so nn N g := by
  refine Prod.ext (funext fun b => funext fun k => ?_) rfl
  show (if b = 16 ∧ k = s then th else if b = 17 ∧ k = s then so else if b = 18 ∧ k = s then nn else if b = 20 + s ∧ k < N then g k else (if b = 16 ∧ k = s then th else if b = 17 ∧ k = s then so else if b = 18 ∧ k = s then nn else if b = 20 + s ∧ k < N then f k else A.1 b k)) = (if b = 16 ∧ k = s then th else if b = 17 ∧ k = s then so else if b = 18 ∧ k = s then nn else if b = 20 + s ∧ k < N then g k else A.1 b k)
  split
  · rfl
  · split
    · rfl
    · split
      · rfl
      · split <;> rfl
theorem rng_stroke {A : Abs} {kind number aim : Int32} (hg : RNG A) : RNG (zr_stroke A kind number aim).2 := by
  obtain ⟨c, hc, e, ez⟩ := cnt_e hg
  unfold zr_stroke
  split
  · exact hg
  · rename_i h
    have h := Classical.not_not.mp h
    split
    · exact hg
    · rename_i h6
      rw [ez] at h6 ⊢
      obtain ⟨g1, g2, g3, g4, g5, g6⟩ := hg
      have eo : ∀ b k, b ≠ 5 → b ≠ 6 → b ≠ 7 → b ≠ 8 → (zUp (zUp (zUp (zUp A 5 c kind) 6 c number) 7 c aim) 8 0 (nI (c + 1))).1 b k = A.1 b k := fun b k z1 z2 z3 z4 => (zUp_n (by omega)).trans ((zUp_n (by omega)).trans ((zUp_n (by omega)).trans (zUp_n (by omega))))
      refine ⟨fun p hp => ?_, fun p hp => ?_, fun q hq => ?_, ⟨c + 1, by omega, zUp_e⟩, fun s hs => ?_, ?_⟩
      · rw [eo 0 p (by decide) (by decide) (by decide) (by decide)]; exact g1 p hp
      · rw [eo 3 p (by decide) (by decide) (by decide) (by decide)]; exact g2 p hp
      · rw [zUp_n (by omega)]
        by_cases e7 : q = c
        · rw [e7, zUp_e]; exact h.2.2
        · rw [zUp_n (by omega), zUp_n (by omega), zUp_n (by omega)]; exact g3 q hq
      · rw [eo 16 s (by decide) (by decide) (by decide) (by decide), eo 18 s (by decide) (by decide) (by decide) (by decide)]; exact g5 s hs
      · rw [eo 10 0 (by decide) (by decide) (by decide) (by decide), eo 9 0 (by decide) (by decide) (by decide) (by decide)]; exact g6
theorem sub3_le {N k a : Nat} (hN : N ≤ 40) (hk : k ≤ 6) (ha : a < 2147483648) : nI a ≤ nI N - nI (3 * k) - 3 ↔ a + 3 * k + 3 ≤ N := by
  rw [i_le]
  obtain ⟨z1, e1, b1, b2⟩ := i_sub (nI N) (nI (3 * k))
  obtain ⟨z2, e2, b3, b4⟩ := i_sub (nI N - nI (3 * k)) 3
  rw [nI_toInt (by omega), nI_toInt (by omega)] at e1
  rw [nI_toInt (by omega), e2, e1] 
  rw [e2, e1] at b3 b4
  rw [e1] at b1 b2
  have e3 : (3 : Int32).toInt = 3 := rfl
  rw [e3] at b3 b4 ⊢
  omega
