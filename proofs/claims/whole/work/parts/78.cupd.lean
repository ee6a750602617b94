/-! ===== the class: what a call leaves ===== -/
def cF (x b : Nat) : Prop := (x ≤ b ∧ b < x + 75) ∨ x + 94 ≤ b
abbrev cI (x n : Nat) (S : Nat → Nat × Nat) (M : Nat → Nat → Int32) (P : Nat → Nat → Option Nat) (w : Value) (A' : Abs) : Option Value → Mem → Prop := fun v μ => v = some w ∧ ∃ n' S' M' L' P', μ = (n', S', M', L', P') ∧ n ≤ n' ∧ (∀ b, b < n → S' b = S b) ∧ CWF x S' P' ∧ cABS x n' S' P' M' A' ∧ (∀ b k, ¬ cF x b → M' b k = M b k) ∧ ∀ b k, ¬ cF x b → P' b k = P b k
section CU
variable {n : Nat} {S : Nat → Nat × Nat} {M M' : Nat → Nat → Int32} {L L' : Nat → Nat → Int64} {P P' : Nat → Nat → Option Nat} {x : Nat} {A A' : Abs}
/-- an answer, nothing changed -/
theorem cI_q {w w' : Value} (e : w = w') (hA : cABS x n S P M A) (hC : CWF x S P) : cI x n S M P w' A (some w) (n, S, M, L', P) := ⟨by rw [e], n, S, M, L', P, rfl, Nat.le_refl _, fun _ _ => rfl, hC, hA, fun _ _ _ => rfl, fun _ _ _ => rfl⟩
/-- an answer, the numbers changed -/
theorem cI_m {w w' : Value} (e : w = w') (hA : cABS x n S P M' A') (hC : CWF x S P) (hf : ∀ b k, ¬ cF x b → M' b k = M b k) : cI x n S M P w' A' (some w) (n, S, M', L', P) := ⟨by rw [e], n, S, M', L', P, rfl, Nat.le_refl _, fun _ _ => rfl, hC, hA, hf, fun _ _ _ => rfl⟩
/-- the court changed, or the rule -/
theorem cABS_court (h : cABS x n S P M A) (h6 : i2n (A.1 10 0) ≤ 6) (hc : CTA x (x + 40) P' M' A') (he : ∀ b k, 5 ≤ b → b ≠ 9 → A'.1 b k = A.1 b k) (h2 : A'.2 = A.2) (hk : ∀ b k, x ≤ b → ¬ (x + 75 ≤ b ∧ b < x + 94) → ¬ CQ x b k → ¬ (x + 40 ≤ b ∧ b < x + 43) → M' b k = M b k)
    (hP : ∀ b k, x ≤ b → b < x + 75 → ¬ CQP x b k → ¬ (b = x + 40 ∧ k = 3) → P' b k = P b k) (hu : ∀ j, j < 9 → True) : cABS x n S P' M' A' := by
  obtain ⟨-, a2, a3, a4, a5, a6, a7, -⟩ := h
  have e10 := he 10 0 (by decide) (by decide)
  have e8 := he 8 0 (by decide) (by decide)
  have ez : zcnt A' = zcnt A := by show i2n _ = i2n _; rw [e8]
  refine ⟨hc, (hk _ _ (by omega) (by omega) (by unfold CQ; omega) (by omega)).trans (a2.trans e10.symm), ?_, ?_, ?_, ?_, ?_, hu⟩
  · have := a3.keep (M' := M') (fun b k z1 z2 => hk _ _ (by omega) (by omega) (by unfold CQ; omega) (by omega)) h6
    exact ⟨fun i hi => by rw [h2]; exact this.1 i (by rw [← e10]; exact hi), this.2⟩
  · have := a4.keep (M' := M') (P' := P') (hk _ _ (by omega) (by omega) (by unfold CQ; omega) (by omega)) (fun b k z => hk _ _ (by omega) (by omega) (by unfold CQ; omega) (by omega)) (fun k => hP _ _ (by omega) (by omega) (by unfold CQP; omega) (by omega))
    unfold STS at *
    rw [ez, e8]
    refine ⟨this.1, fun q hq => ?_, this.2.2⟩
    rw [he 5 q (by decide) (by decide), he 6 q (by decide) (by decide), he 7 q (by decide) (by decide)]
    exact this.2.1 q hq
  · have := a5.keep (M' := M') (fun b k z1 z2 => hk _ _ (by omega) (by omega) (by unfold CQ; omega) (by omega))
    intro s hs
    rw [he 16 s (by decide) (by decide), he 17 s (by decide) (by decide), he 18 s (by decide) (by decide)]
    have q := this s hs
    refine ⟨q.1, fun z => ⟨(q.2 z).1, fun j hj => ?_⟩⟩
    rw [he (20 + s) j (by omega) (by omega)]
    exact (q.2 z).2 j hj
  · have := a6.keep (M' := M') (hk _ _ (by omega) (by omega) (by unfold CQ; omega) (by omega)) (fun k => hk _ _ (by omega) (by omega) (by unfold CQ; omega) (by omega))
    unfold TPS at *
    rw [he 12 0 (by decide) (by decide)]
    refine ⟨this.1, fun i hi => ?_⟩
    rw [he 11 i (by decide) (by decide)]
    exact this.2 i hi
  · have := a7.keep (M' := M') (P' := P') (hk _ _ (by omega) (by omega) (by unfold CQ; omega) (by omega)) (fun b k z => hk _ _ (by omega) (by omega) (by unfold CQ; omega) (by omega)) (hP _ _ (by omega) (by omega) (by unfold CQP; omega) (by omega))
    unfold IMS at *
    rw [he 15 0 (by decide) (by decide), he 15 1 (by decide) (by decide), he 15 2 (by decide) (by decide)]
    refine ⟨this.1, fun z => ?_⟩
    obtain ⟨q1, q2, q3, q4⟩ := this.2 z
    refine ⟨fun p hp => ?_, q2, q3, fun q hq => ?_⟩
    · rw [he 13 p (by decide) (by decide), he 13 _ (by decide) (by decide), he 13 _ (by decide) (by decide), he 13 _ (by decide) (by decide)]
      exact q1 p hp
    · rw [he 14 q (by decide) (by decide), he 14 _ (by decide) (by decide)]
      exact q4 q hq
/-- only the class's own numbers changed, and what they are -/
theorem cABS_loc (h : cABS x n S P M A) (h6 : i2n (A.1 10 0) ≤ 6) (hk : ∀ b k, x ≤ b → ¬ (x + 75 ≤ b ∧ b < x + 94) → ¬ CQ x b k → ¬ (x + 67 ≤ b ∧ b < x + 75) → ¬ (b = x + 3 ∨ (b = x + 2 ∧ k = 1)) → M' b k = M b k)
    (he : ∀ b k, ¬ (16 ≤ b) → b ≠ 11 → b ≠ 12 → A'.1 b k = A.1 b k) (h2 : A'.2 = A.2) (hs : SHS x M' A') (ht : TPS x M' A') : cABS x n S P M' A' := by
  obtain ⟨a1, a2, a3, a4, -, -, a7, hu⟩ := h
  have e10 := he 10 0 (by decide) (by decide) (by decide)
  have e8 := he 8 0 (by decide) (by decide) (by decide)
  have ez : zcnt A' = zcnt A := by show i2n _ = i2n _; rw [e8]
  have kk : ∀ b k, x ≤ b → ¬ (x + 75 ≤ b ∧ b < x + 94) → ¬ CQ x b k → ¬ (x + 67 ≤ b ∧ b < x + 75) → ¬ (b = x + 2) → ¬ b = x + 3 → M' b k = M b k := fun b k z1 z2 z3 z4 z5 z6 => hk b k z1 z2 z3 z4 (by omega)
  refine ⟨?_, (kk _ _ (by omega) (by omega) (by unfold CQ; omega) (by omega) (by omega) (by omega)).trans (a2.trans e10.symm), ?_, ?_, hs, ht, ?_, hu⟩
  · have := a1.keep (M' := M') (P' := P) (fun k => ⟨kk _ _ (by omega) (by omega) (by unfold CQ; omega) (by omega) (by omega) (by omega), kk _ _ (by omega) (by omega) (by unfold CQ; omega) (by omega) (by omega) (by omega), kk _ _ (by omega) (by omega) (by unfold CQ; omega) (by omega) (by omega) (by omega)⟩) rfl
    unfold CTA at *
    rw [he 4 0 (by decide) (by decide) (by decide), he 9 0 (by decide) (by decide) (by decide)]
    refine ⟨this.1, fun p hp => ?_, this.2.2⟩
    rw [he 0 p (by decide) (by decide) (by decide), he 1 p (by decide) (by decide) (by decide), he 2 p (by decide) (by decide) (by decide), he 3 p (by decide) (by decide) (by decide)]
    exact this.2.1 p hp
  · have := a3.keep (M' := M') (fun b k z1 z2 => kk _ _ (by omega) (by omega) (by unfold CQ; omega) (by omega) (by omega) (by omega)) h6
    exact ⟨fun i hi => by rw [h2]; exact this.1 i (by rw [← e10]; exact hi), this.2⟩
  · have := a4.keep (M' := M') (P' := P) (kk _ _ (by omega) (by omega) (by unfold CQ; omega) (by omega) (by omega) (by omega)) (fun b k z => kk _ _ (by omega) (by omega) (by unfold CQ; omega) (by omega) (by omega) (by omega)) (fun k => rfl)
    unfold STS at *
    rw [ez, e8]
    refine ⟨this.1, fun q hq => ?_, this.2.2⟩
    rw [he 5 q (by decide) (by decide) (by decide), he 6 q (by decide) (by decide) (by decide), he 7 q (by decide) (by decide) (by decide)]
    exact this.2.1 q hq
  · have := a7.keep (M' := M') (P' := P) (kk _ _ (by omega) (by omega) (by unfold CQ; omega) (by omega) (by omega) (by omega)) (fun b k z => kk _ _ (by omega) (by omega) (by unfold CQ; omega) (by omega) (by omega) (by omega)) rfl
    unfold IMS at *
    rw [he 15 0 (by decide) (by decide) (by decide), he 15 1 (by decide) (by decide) (by decide), he 15 2 (by decide) (by decide) (by decide)]
    refine ⟨this.1, fun z => ?_⟩
    obtain ⟨q1, q2, q3, q4⟩ := this.2 z
    refine ⟨fun p hp => ?_, q2, q3, fun q hq => ?_⟩
    · rw [he 13 p (by decide) (by decide) (by decide), he 13 _ (by decide) (by decide) (by decide), he 13 _ (by decide) (by decide) (by decide), he 13 _ (by decide) (by decide) (by decide)]
      exact q1 p hp
    · rw [he 14 q (by decide) (by decide) (by decide), he 14 _ (by decide) (by decide) (by decide)]
      exact q4 q hq
/-- a stroke's number or aim changed -/
theorem cABS_stk {q t a : Nat} {v : Int32} (h : cABS x n S P M A) (h6 : i2n (A.1 10 0) ≤ 6) (hq : q < zcnt A) (ht : t < 2) (ha : P (x + 4) q = some a) (hM : M' = up2 M a t v) : cABS x n S P M' (zUp A (6 + t) q v) := by
  obtain ⟨a1, a2, a3, a4, a5, a6, a7, hu⟩ := h
  obtain ⟨a0, b1, b2, b3, b4⟩ := a4.at hq
  obtain rfl : a = a0 := Option.some.inj (ha.symm.trans b1)
  have kk : ∀ b k, b < x + 94 → M' b k = M b k := fun b k z => by rw [hM]; exact up2_n (by omega)
  have he : ∀ b k, ¬ (b = 6 + t ∧ k = q) → (zUp A (6 + t) q v).1 b k = A.1 b k := fun b k z => zUp_n z
  have ez : zcnt (zUp A (6 + t) q v) = zcnt A := by show i2n _ = i2n _; rw [he 8 0 (by omega)]
  refine ⟨?_, (kk _ _ (by omega)).trans (a2.trans (he 10 0 (by omega)).symm), ?_, ?_, ?_, ?_, ?_, hu⟩
  · have := a1.keep (M' := M') (P' := P) (fun k => ⟨kk _ _ (by omega), kk _ _ (by omega), kk _ _ (by omega)⟩) rfl
    unfold CTA at *
    rw [he 4 0 (by omega), he 9 0 (by omega)]
    refine ⟨this.1, fun p hp => ?_, this.2.2⟩
    rw [he 0 p (by omega), he 1 p (by omega), he 2 p (by omega), he 3 p (by omega)]
    exact this.2.1 p hp
  · have := a3.keep (M' := M') (fun b k z1 z2 => kk _ _ (by omega)) h6
    exact ⟨fun i hi => this.1 i (by rw [← he 10 0 (by omega)]; exact hi), this.2⟩
  · refine ⟨by rw [he 8 0 (by omega), kk _ _ (by omega)]; exact a4.1, fun u hu' => ?_, fun i j hi hj e => a4.2.2 i j (by rw [← ez]; exact hi) (by rw [← ez]; exact hj) e⟩
    rw [ez] at hu'
    obtain ⟨c, c1, c2, c3, ci, d1, d2, d3, d4, d5⟩ := a4.at hu'
    refine ⟨c, c1, c2, c3, ci, d1, d2, by rw [he 5 u (by omega)]; exact d3, ?_⟩
    by_cases e : u = q
    · subst e
      obtain rfl : a = c := Option.some.inj (ha.symm.trans c1)
      rcases (by omega : t = 0 ∨ t = 1) with rfl | rfl
      · exact ⟨by rw [hM, up2_s]; exact zUp_e.symm, by rw [hM, up2_n (by omega), he 7 u (by omega)]; exact d5⟩
      · exact ⟨by rw [hM, up2_n (by omega), he 6 u (by omega)]; exact d4, by rw [hM, up2_s]; exact zUp_e.symm⟩
    · have hca : c ≠ a := fun z => e (a4.2.2 u q hu' hq (by rw [c1, ha, z]))
      rw [hM, up2_n (by omega), up2_n (by omega), he 6 u (by omega), he 7 u (by omega)]
      exact ⟨d4, d5⟩
  · have := a5.keep (M' := M') (fun b k z1 z2 => kk _ _ (by omega))
    intro s hs
    rw [he 16 s (by omega), he 17 s (by omega), he 18 s (by omega)]
    have z := this s hs
    refine ⟨z.1, fun y => ⟨(z.2 y).1, fun j hj => ?_⟩⟩
    rw [he (20 + s) j (by omega)]
    exact (z.2 y).2 j hj
  · have := a6.keep (M' := M') (kk _ _ (by omega)) (fun k => kk _ _ (by omega))
    unfold TPS at *
    rw [he 12 0 (by omega)]
    refine ⟨this.1, fun i hi => ?_⟩
    rw [he 11 i (by omega)]
    exact this.2 i hi
  · have := a7.keep (M' := M') (P' := P) (kk _ _ (by omega)) (fun b k z => kk _ _ (by omega)) rfl
    unfold IMS at *
    rw [he 15 0 (by omega), he 15 1 (by omega), he 15 2 (by omega)]
    refine ⟨this.1, fun z => ?_⟩
    obtain ⟨q1, q2, q3, q4⟩ := this.2 z
    refine ⟨fun p hp => ?_, q2, q3, fun q hq => ?_⟩
    · rw [he 13 p (by omega), he 13 _ (by omega), he 13 _ (by omega), he 13 _ (by omega)]
      exact q1 p hp
    · rw [he 14 q (by omega), he 14 _ (by omega)]
      exact q4 q hq
end CU
