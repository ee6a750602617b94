/-! ===== the reference's reader: what its fields hold ===== -/
/-- here the reader's fields are no scratch -/
def HX (o : Nat) (sc : Nat → Nat → Prop) : Prop := (∀ k, ¬ sc o k) ∧ ∀ t k, 0 < t → t < 19 → ¬ sc (o + t) k
abbrev TB (o r : Nat) (M : Nat → Nat → Int32) : Nat → Int32 := fun i => M (o + 1) (160 * r + i)
/-- the text r of m bytes is read -/
def RDG (o r m : Nat) (M : Nat → Nat → Int32) : Prop := r < 6 ∧ m ≤ 160 ∧ M o 22 = nI (160 * r) ∧ M o 23 = nI m
/-- what the reader may change -/
def PD (o b k : Nat) : Prop := b = o ∧ 24 ≤ k ∧ k ≤ 30
/-- the fields hold the token that is read from i on -/
def TKS (o : Nat) (b : Nat → Int32) (m i : Nat) (M : Nat → Nat → Int32) (L : Nat → Nat → Int64) : Prop :=
  skB b m i ≤ m ∧ M o 26 = nI (skB b m i) ∧
  ((skB b m i = m ∧ M o 25 = 0) ∨ (skB b m i < m ∧ isLt (b (skB b m i)) ∧ M o 25 = 1 ∧ M o 24 = nI (skL b m (skB b m i))) ∨
   (skB b m i < m ∧ isDg (b (skB b m i)) ∧ ¬ 4 < skD b m (skB b m i) - skB b m i ∧ M o 25 = 2 ∧ M o 24 = nI (skD b m (skB b m i)) ∧ (L o 27).toInt32 = dgs b (skB b m i) (skD b m (skB b m i) - skB b m i)) ∨
   (skB b m i < m ∧ isDg (b (skB b m i)) ∧ 4 < skD b m (skB b m i) - skB b m i ∧ M o 25 = 4) ∨
   (skB b m i < m ∧ isSg (b (skB b m i)) ∧ M o 25 = 3 ∧ M o 24 = nI (skB b m i + 1) ∧ L o 27 = (b (skB b m i)).toInt64) ∨
   (skB b m i < m ∧ ¬ isLt (b (skB b m i)) ∧ ¬ isDg (b (skB b m i)) ∧ ¬ isSg (b (skB b m i)) ∧ M o 25 = 4))
section RUN
variable {b : Nat → Int32} {n i k : Nat}
theorem bt_in (h : i < n) : bt b n i = b i := if_pos h
theorem bt_out (h : n ≤ i) : bt b n i = -1 := if_neg (by omega)
theorem run_y {p : Int32 → Prop} [DecidablePred p] (h : p (bt b n i)) (hi : i < n) : runTo b n p (n - i) i = runTo b n p (n - (i + 1)) (i + 1) := by
  obtain ⟨d, hd⟩ : ∃ d, n - i = d + 1 := ⟨n - i - 1, by omega⟩
  rw [hd, show n - (i + 1) = d by omega]
  exact if_pos h
theorem run_n {p : Int32 → Prop} [DecidablePred p] (h : ¬ p (bt b n i)) : runTo b n p k i = i := by
  cases k with
  | zero => rfl
  | succ k => exact if_neg h
theorem run_end {p : Int32 → Prop} [DecidablePred p] (h : n ≤ i) : runTo b n p (n - i) i = i := by rw [show n - i = 0 by omega]; rfl
theorem run_ge {p : Int32 → Prop} [DecidablePred p] : i ≤ runTo b n p k i := by
  induction k generalizing i with
  | zero => exact Nat.le_refl _
  | succ k ih =>
    unfold runTo
    split
    · exact Nat.le_trans (Nat.le_succ i) ih
    · exact Nat.le_refl _
theorem run_le {p : Int32 → Prop} [DecidablePred p] (h : i ≤ n) : runTo b n p (n - i) i ≤ n := by
  have key : ∀ k i, i + k = n → runTo b n p k i ≤ n := by
    intro k
    induction k with
    | zero => intro i hi; show i ≤ n; omega
    | succ k ih =>
      intro i hi
      unfold runTo
      split
      · exact ih (i + 1) (by omega)
      · omega
  exact key (n - i) i (by omega)
end RUN
theorem isLt_i {c : Int32} : isLt c ↔ 97 ≤ c.toInt ∧ c.toInt ≤ 122 := by
  unfold isLt
  rw [i_le, i_le]
  exact Iff.rfl
theorem isDg_i {c : Int32} : isDg c ↔ 48 ≤ c.toInt ∧ c.toInt ≤ 57 := by
  unfold isDg
  rw [i_le, i_le]
  exact Iff.rfl
/-- what the reading of a token leaves as it was -/
abbrev NF (o b k : Nat) : Prop := b = o ∧ 24 ≤ k ∧ k ≤ 26
section KP
variable {o r m : Nat} {M M' : Nat → Nat → Int32}
theorem RDG.keep (h : RDG o r m M) (hk : ∀ b k, ¬ (b = o ∧ 24 ≤ k ∧ k ≤ 30) → M' b k = M b k) : RDG o r m M' := ⟨h.1, h.2.1, (hk _ _ (by omega)).trans h.2.2.1, (hk _ _ (by omega)).trans h.2.2.2⟩
theorem TB_keep (hk : ∀ b k, ¬ (b = o ∧ 24 ≤ k ∧ k ≤ 30) → M' b k = M b k) : TB o r M' = TB o r M := funext fun i => hk _ _ (by omega)
end KP
theorem dg_step {b : Nat → Int32} {s n : Nat} {w : Int64} (h : w.toInt32 = dgs b s n) : (10 * w + (b (s + n)).toInt64 - 48).toInt32 = dgs b s (n + 1) := by
  show _ = dgs b s n * 10 + b (s + n) - 48
  rw [Int64.toInt32_sub, Int64.toInt32_add, Int64.toInt32_mul, h, Int32.toInt32_toInt64, show (10 : Int64).toInt32 = 10 from rfl, show (48 : Int64).toInt32 = 48 from rfl, Int32.mul_comm]
