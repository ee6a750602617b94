/-! ===== more of the plain calls ===== -/
theorem zUp_e {A : Abs} {b k : Nat} {v : Int32} : (zUp A b k v).1 b k = v := by
  show up2 A.1 b k v b k = v
  exact up2_s ..
theorem zUp_n {A : Abs} {b k b' k' : Nat} {v : Int32} (h : ¬ (b' = b ∧ k' = k)) : (zUp A b k v).1 b' k' = A.1 b' k' := by
  show up2 A.1 b k v b' k' = _
  exact up2_n h
def s_within2 (lo hi : Int) (x : Int32) : Prop := lo ≤ x.toInt ∧ x.toInt ≤ hi
/-- what is so of every state -/
def RNG2 (A : Abs) : Prop :=
  RNG A ∧ (∀ p, p < 2 → s_within2 0 999 (A.1 1 p)) ∧ s_within2 0 99 (A.1 4 0) ∧ (∀ q, q < zcnt A → s_within2 0 5 (A.1 5 q) ∧ s_within2 0 9 (A.1 6 q)) ∧ (∃ m, m ≤ 160 ∧ A.1 12 0 = nI m) ∧ (∀ s, s < 4 → A.1 16 s = 1 → s_within2 0 2 (A.1 17 s)) ∧
  (A.1 15 0 = -1 ∨ ((∃ c, c ≤ zcnt A ∧ A.1 15 0 = nI c) ∧ (∀ p, p < 2 → cv (A.1 13 p)) ∧ (∀ p, p < 2 → s_within2 0 999 (A.1 13 (2 + p))) ∧ (∀ p, p < 2 → A.1 13 (6 + p) = -1 ∨ cv (A.1 13 (6 + p))) ∧ (∀ q, q < zcnt A → s_within2 0 9 (A.1 14 q)) ∧ (∀ q, q < 6 → cv (A.1 14 (6 + q))) ∧ s_within2 0 99 (A.1 15 1) ∧ ∃ r, r < i2n (A.1 10 0) ∧ A.1 15 2 = nI r)) ∧ ∀ i, i < i2n (A.1 12 0) → s_within2 0 255 (A.1 11 i)
noncomputable def zr_count (A : Abs) (what : Int32) : Int32 := by
  classical
  exact if ¬ (0 ≤ what.toInt ∧ what.toInt ≤ 4) then -2 else if what = 0 then A.1 8 0 else if what = 1 then A.1 4 0 else if what = 2 then A.1 10 0 else if what = 3 then A.1 12 0 else A.1 9 0
/-- whether a stroke of kind x is one of kind k -/
def s_under (x k : Int32) : Bool := x == k || k == 0 || (k == 1 && (x == 3 || x == 5)) || (k == 2 && x == 4)
def s_ov (x : Int32) : Int32 := if x = 0 then -1 else if x = 3 ∨ x = 5 then 1 else if x = 4 then 2 else 0
noncomputable def zr_taken (A : Abs) (s k : Int32) : Int32 := by
  classical
  exact if ¬ (0 ≤ k.toInt ∧ k.toInt ≤ 5) then -2 else if ¬ isSk A s then -11 else if s_under (A.1 5 (i2n s)) k = true then A.1 6 (i2n s) else -13
noncomputable def zr_needs (A : Abs) (pl way : Int32) : Int32 := by
  classical
  exact if ¬ (isPl pl ∧ (0 ≤ way.toInt ∧ way.toInt ≤ 2499) ∧ (0 ≤ (way / 100).toInt ∧ (way / 100).toInt ≤ 24) ∧ (0 ≤ (way - way / 100 * 100).toInt ∧ (way - way / 100 * 100).toInt ≤ 24)) then -2 else s_needs (zE A) (A.1 4 0) (A.1 1 (i2n pl)) (A.1 2 (i2n pl)) (way / 100) (way - way / 100 * 100)
def zsh (A : Abs) (p k : Nat) : Nat → Int32
  | 0 => s_comes (A.1 5 k) (A.1 7 k) (A.1 0 p)
  | 1 => s_tenths (zE A) (A.1 4 0) (A.1 1 p) (A.1 2 p) (A.1 5 k) (A.1 6 k) (A.1 0 p) (s_comes (A.1 5 k) (A.1 7 k) (A.1 0 p))
  | 2 => s_slips (zE A) (A.1 4 0) (A.1 1 p) (A.1 2 p) (A.1 6 k) (A.1 0 p) (s_comes (A.1 5 k) (A.1 7 k) (A.1 0 p))
  | 3 => s_spends (A.1 5 k) (A.1 6 k)
  | _ => s_needs (zE A) (A.1 4 0) (A.1 1 (1 - p)) (A.1 2 (1 - p)) (A.1 0 (1 - p)) (s_comes (A.1 5 k) (A.1 7 k) (A.1 0 p))
noncomputable def zr_shot (A : Abs) (pl s what : Int32) : Int32 := by
  classical
  exact if ¬ (isPl pl ∧ isSk A s ∧ (0 ≤ what.toInt ∧ what.toInt ≤ 4)) then -2 else zsh A (i2n pl) (i2n s) (i2n what)
noncomputable def zr_feed (A : Abs) (b : Int32) : Int32 × Abs := by
  classical
  exact if ¬ (0 ≤ b.toInt ∧ b.toInt ≤ 255) then (-2, A) else if i2n (A.1 12 0) = 160 then (-4, A) else (nI (i2n (A.1 12 0) + 1), zUp (zUp A 11 (i2n (A.1 12 0)) b) 12 0 (nI (i2n (A.1 12 0) + 1)))
noncomputable def zr_force (A : Abs) (t : Int32) : Int32 × Abs := by
  classical
  exact if ¬ (0 ≤ t.toInt ∧ t.toInt ≤ (A.1 10 0 - 1).toInt) then (-2, A) else (A.1 9 0, zUp A 9 0 t)
theorem feed_abs {o m : Nat} {M : Nat → Nat → Int32} {A : Abs} {b : Int32} (hA : rABS o M A) (hm : m < 160) (h12 : A.1 12 0 = nI m) : rABS o (up2 (up2 M (o + 3) m b) o 6 (nI (m + 1))) (zUp (zUp A 11 m b) 12 0 (nI (m + 1))) := by
  have e12 : (zUp (zUp A 11 m b) 12 0 (nI (m + 1))).1 12 0 = nI (m + 1) := zUp_e
  have eo : ∀ b' k, b' ≠ 11 → b' ≠ 12 → (zUp (zUp A 11 m b) 12 0 (nI (m + 1))).1 b' k = A.1 b' k := fun b' k z1 z2 => (zUp_n (by omega)).trans (zUp_n (by omega))
  have mo : ∀ x i, x ≠ o + 3 → ¬ (x = o ∧ i = 6) → (up2 (up2 M (o + 3) m b) o 6 (nI (m + 1))) x i = M x i := fun x i z1 z2 => (up2_n z2).trans (up2_n (by omega))
  refine rABS_mk (fun b' k x i hl => ?_) (fun i hi => ?_) (fun i hi => ?_) ((mo _ _ (by omega) (by omega)).trans hA.as)
  · by_cases e : b' = 12 ∧ k = 0
    · obtain ⟨rfl, rfl⟩ := e
      obtain ⟨rfl, rfl⟩ : x = o ∧ i = 6 := by unfold LOC at hl; omega
      rw [e12, up2_s]
    · rw [mo x i (by unfold LOC at hl; omega) (by unfold LOC at hl; omega), eo b' k (by unfold LOC at hl; omega) (by unfold LOC at hl; omega)]
      exact hA.loc _ _ _ _ hl
  · rw [e12, show i2n (nI (m + 1)) = m + 1 from nI_clamp (by omega)] at hi
    rw [up2_n (by omega)]
    rw [zUp_n (by omega)]
    by_cases e : i = m
    · rw [e, up2_s, zUp_e]
    · rw [up2_n (by omega), zUp_n (by omega)]
      exact hA.tap (by rw [h12, show i2n (nI m) = m from nI_clamp (by omega)]; omega)
  · rw [eo 10 0 (by decide) (by decide)] at hi
    obtain ⟨l, h1, h2, h3⟩ := hA.tx hi
    exact ⟨l, h1, (mo _ _ (by omega) (by omega)).trans h2, by rw [show (fun j => up2 (up2 M (o + 3) m b) o 6 (nI (m + 1)) (o + 1) (160 * i + j)) = fun j => M (o + 1) (160 * i + j) from funext fun j => mo _ _ (by omega) (by omega)]; exact h3⟩
