/-! ===== reading: the state before a part, and what a part leaves ===== -/
/-- the reader stands before the token read from i on, f more may be open -/
def PST (o r m : Nat) (b : Nat → Int32) (nm : Nms) (f i : Nat) (M : Nat → Nat → Int32) (L : Nat → Nat → Int64) : Prop :=
  RDG o r m M ∧ TB o r M = b ∧ i ≤ m ∧ M o 29 = 0 ∧ M o 28 = nI (5 - f) ∧ (∀ k, k < 6 → M o (16 + k) = nm k) ∧ TKS o b m i M L
/-- what is left: a fault, or what is said and where it stands -/
def PPO (o r m : Nat) (b : Nat → Int32) (nm : Nms) (f i n : Nat) (S : Nat → Nat × Nat) (P : Nat → Nat → Option Nat) (g : PR) (M : Nat → Nat → Int32) (L : Nat → Nat → Int64) : Option Value → Mem → Prop := fun v μ =>
  ∃ x M' L', v = some (.int x) ∧ μ = (n, S, M', L', P) ∧ (∀ b k, ¬ PD o b k → M' b k = M b k) ∧ (∀ b k, ¬ (b = o ∧ k = 27) → L' b k = L b k) ∧
    (match g with
      | .inl q => M' o 29 = 1 ∧ M' o 30 = nI q
      | .inr (_, d, j) => x = d nm ∧ i < j ∧ PST o r m b nm f j M' L')
section PT
variable {G : Gx} {sc : Nat → Nat → Prop} {n : Nat} {S : Nat → Nat × Nat} {M M' : Nat → Nat → Int32} {L : Nat → Nat → Int64} {P : Nat → Nat → Option Nat} {o r m i j f f' : Nat} {b : Nat → Int32} {nm : Nms}
theorem PD_of {x k : Nat} (h : ¬ PD o x k) : ¬ NF o x k := fun z => h (by unfold PD; omega)
/-- the next token -/
theorem kp_nx (hg : RDG o r m M) (hT : TB o r M = b) (hj : j ≤ m) (h29 : M o 29 = 0) (h28 : M o 28 = nI (5 - f)) (hn : ∀ k, k < 6 → M o (16 + k) = nm k) (hB : ∀ i, i < m → 0 ≤ (b i).toInt) (h24 : M o 24 = nI j) (hR : RWF o S P) (hX : HX o sc) :
    KK G sc yX12_next cX12_next 3 none 2 0 0 [.ref o] (n, S, M, L, P) (fun v μ => v = none ∧ ∃ M' L', μ = (n, S, M', L', P) ∧ PST o r m b nm f j M' L' ∧ (∀ b k, ¬ PD o b k → M' b k = M b k) ∧ ∀ b k, ¬ (b = o ∧ k = 27) → L' b k = L b k) := by
  subst hT
  refine KK_mono (kp_next hg hj hB h24 hR hX) ?_
  intro v μ ⟨h1, M', L', h2, h3, h4, h5⟩
  have hk : ∀ b k, ¬ (b = o ∧ 24 ≤ k ∧ k ≤ 30) → M' b k = M b k := fun b k z => h4 b k (by omega)
  exact ⟨h1, M', L', h2, ⟨hg.keep hk, TB_keep hk, hj, (h4 _ _ (by omega)).trans h29, (h4 _ _ (by omega)).trans h28, fun k h6 => (h4 _ _ (by omega)).trans (hn k h6), h3⟩, fun b k z => h4 b k (PD_of z), h5⟩
theorem tok_e (h : skB b m i < m) : i < (tok b m i).2.2.2 ∧ (tok b m i).2.2.2 ≤ m := by
  have h1 : i ≤ skB b m i := run_ge
  unfold tok
  rw [if_neg (Nat.not_le.mpr h)]
  split
  · rename_i hl
    have q : skB b m i < skL b m (skB b m i) ∧ skL b m (skB b m i) ≤ m := by
      refine ⟨?_, run_le (Nat.le_of_lt h)⟩
      show _ < runTo b m isLt _ _
      rw [run_y (p := isLt) (by rw [bt_in h]; exact hl) h]
      exact run_ge
    split
    · exact ⟨Nat.lt_of_le_of_lt h1 q.1, q.2⟩
    · exact ⟨Nat.lt_of_le_of_lt h1 q.1, q.2⟩
  · split
    · rename_i hd
      have q : skB b m i < skD b m (skB b m i) ∧ skD b m (skB b m i) ≤ m := by
        refine ⟨?_, run_le (Nat.le_of_lt h)⟩
        show _ < runTo b m isDg _ _
        rw [run_y (p := isDg) (by rw [bt_in h]; exact hd) h]
        exact run_ge
      split
      · exact ⟨Nat.lt_of_le_of_lt h1 q.1, q.2⟩
      · exact ⟨Nat.lt_of_le_of_lt h1 q.1, q.2⟩
    · split
      · exact ⟨Nat.lt_succ_of_le h1, h⟩
      · exact ⟨Nat.lt_succ_of_le h1, h⟩
/-- a token that is something: where it ends -/
theorem tks_e (h : TKS o b m i M L) (hk : (tok b m i).1 ≠ 0) : skB b m i < m ∧ i < (tok b m i).2.2.2 ∧ (tok b m i).2.2.2 ≤ m := by
  have hs : skB b m i < m := by
    rcases Nat.lt_or_ge (skB b m i) m with q | q
    · exact q
    · exact absurd (by rw [tok_end q]) hk
  exact ⟨hs, tok_e hs⟩
end PT
