section LW1
variable {G : Gx} {sc : Nat → Nat → Prop} {b Ln : Nat} {xs : Nat → Int32} {x n n' i d : Nat} {S S' : Nat → Nat × Nat} {M M' M2 : Nat → Nat → Int32} {L : Nat → Nat → Int64} {P P' : Nat → Nat → Option Nat} {A A' : Abs}

/-! ===== the law's invariant ===== -/
def LINV (x n : Nat) (S : Nat → Nat × Nat) (M : Nat → Nat → Int32) (P : Nat → Nat → Option Nat) (A : Abs) : Prop := CWF x S P ∧ cABS x n S P M A ∧ RWF (x + 75) S P ∧ rABS (x + 75) M A ∧ RNG3 A ∧ x + 94 ≤ n
/-- the scratch of both -/
def lsc (x a k : Nat) : Prop := (x + 10 ≤ a ∧ a < x + 40 ∧ ((a - (x + 10)) % 5 = 2 ∨ (a - (x + 10)) % 5 = 3)) ∨ (a = x + 75 ∧ 16 ≤ k ∧ k ≤ 30)
theorem lsc_c : HSC x (lsc x) := ⟨fun b k h1 h2 h3 => by unfold lsc; omega, fun b k h => by unfold lsc; omega, fun b k h1 h2 h3 => by unfold lsc; omega⟩
theorem lsc_r : HSR (x + 75) (lsc x) := ⟨fun k h => by unfold lsc; omega, fun t k h1 h2 => by unfold lsc; omega, fun k h1 h2 => by unfold lsc; omega⟩
theorem rABS_ro {o : Nat} (hA : rABS o M A) (h : ∀ b k, RO o b → M' b k = M b k) : rABS o M' A := by
  have ka : ∀ t, t < 19 → M' (o + t) = M (o + t) := fun t ht => funext fun k => h _ _ ⟨by omega, by omega⟩
  have k0 : M' o = M o := ka 0 (by decide)
  unfold rABS rABSg at *
  rw [ka 1 (by decide), ka 2 (by decide), ka 3 (by decide), ka 4 (by decide), ka 5 (by decide), ka 6 (by decide), ka 7 (by decide), ka 8 (by decide), ka 9 (by decide), ka 10 (by decide), ka 13 (by decide), ka 14 (by decide), ka 15 (by decide), ka 16 (by decide), ka 17 (by decide), ka 18 (by decide), k0]
  exact hA
theorem RLy_lt : ∀ q ∈ RLy, 0 < q.2.1 ∧ q.2.1 < 19 := by decide
theorem RWF_ro {o : Nat} (h : RWF o S P) (hS : ∀ b, RO o b → S' b = S b) (hP : ∀ b k, RO o b → P' b k = P b k) : RWF o S' P' := by
  refine ⟨by rw [hS o ⟨Nat.le_refl _, by omega⟩]; exact h.1, fun q hq => ?_⟩
  have hl := RLy_lt q hq
  rw [hS _ ⟨by omega, by omega⟩, hP _ _ ⟨Nat.le_refl _, by omega⟩]
  exact h.2 q hq
/-- behind the class's call -/
theorem lw_mid (hI : LINV x n S M P A) (hn : n ≤ n') (hS : ∀ b, b < n → S' b = S b) (hM : ∀ b k, ¬ cF x b → M' b k = M b k) (hP : ∀ b k, ¬ cF x b → P' b k = P b k) : RWF (x + 75) S' P' ∧ rABS (x + 75) M' A ∧ x + 94 ≤ n' := by
  obtain ⟨-, -, h3, h4, -, h6⟩ := hI
  exact ⟨RWF_ro h3 (fun b z => hS b (by omega)) (fun b k z => hP b k (by unfold cF; omega)), rABS_ro h4 (fun b k z => hM b k (by unfold cF; omega)), by omega⟩
/-- behind the reference's call -/
theorem lw_end (hC : CWF x S P) (hA : cABS x n S P M A) (hR : RWF (x + 75) S P) (hn : x + 94 ≤ n) (hr : rABS (x + 75) M2 A) (hf : ∀ b k, ¬ RO (x + 75) b → M2 b k = M b k) (hg : RNG3 A) : LINV x n S M2 P A :=
  ⟨hC, hA.keep (rul_lt hg.1.1).2 (fun b k z1 z2 z3 => hf b k (by omega)) (fun _ _ _ _ _ => rfl) (fun _ _ => trivial), hR, hr, hg, hn⟩
theorem td_ro {o b k : Nat} (h : TD o b k) : RO o b := by
  unfold TD at h
  exact ⟨by omega, by omega⟩
theorem lg_cmp0 {r : Int64} : lg_cmp r r = 0 := by
  unfold lg_cmp
  rw [if_neg (by rw [gt_iff_lt, l_lt]; omega), if_pos rfl]
end LW1
