/-! ===== what the reader of texts needs of the class: its tape, its texts ===== -/
def CTh : List (Nat × Nat × Nat) := [(2, 10, 0), (3, 20, 160)]
def CTf : List (Nat × Nat × Nat) := [(2, 0, 3)]
def CWT (x : Nat) (S : Nat → Nat × Nat) (P : Nat → Nat → Option Nat) : Prop :=
  (∀ q ∈ CTh, S (x + q.1) = q.2) ∧ (∀ q ∈ CTf, P (x + q.1) q.2.1 = some (x + q.2.2)) ∧
  (∀ i, i < 6 → S (x + 10 + 5 * i) = (11, 0) ∧ S (x + 10 + 5 * i + 1) = (20, 160) ∧ S (x + 10 + 5 * i + 2) = (20, 160) ∧ S (x + 10 + 5 * i + 3) = (20, 6) ∧ S (x + 10 + 5 * i + 4) = (20, 3) ∧ P (x + 10 + 5 * i) 1 = some (x + 10 + 5 * i + 1) ∧ P (x + 10 + 5 * i) 2 = some (x + 10 + 5 * i + 2) ∧ P (x + 10 + 5 * i) 3 = some (x + 10 + 5 * i + 3) ∧ P (x + 10 + 5 * i) 4 = some (x + 10 + 5 * i + 4)) ∧ True
section CTW
variable {x : Nat} {S : Nat → Nat × Nat} {P P1 : Nat → Nat → Option Nat} {v : Option Nat}
theorem CWT.sh (h : CWT x S P) {t k m : Nat} (hq : (t, k, m) ∈ CTh) : S (x + t) = (k, m) := h.1 (t, k, m) hq
theorem CWT.rf (h : CWT x S P) {t s u : Nat} (hq : (t, s, u) ∈ CTf) : P (x + t) s = some (x + u) := h.2.1 (t, s, u) hq
theorem CWF.t (h : CWF x S P) : CWT x S P :=
  ⟨fun q hq => h.1 q ((by decide : ∀ q ∈ CTh, q ∈ CSh) q hq), fun q hq => h.2.1 q ((by decide : ∀ q ∈ CTf, q ∈ CRf) q hq), h.2.2.1, trivial⟩
theorem CWT.into (h : CWT x S P) (e : P1 = up2 P (x + 2) 2 v) : CWT x S P1 := by
  subst e
  obtain ⟨a1, a2, a3, -⟩ := h
  refine ⟨a1, fun q hq => ?_, fun i hi => ?_, trivial⟩
  · have hb : ¬ (q.1 = 2 ∧ q.2.1 = 2) := (by decide : ∀ q ∈ CTf, ¬ (q.1 = 2 ∧ q.2.1 = 2)) q hq
    rw [up2_n (by omega)]
    exact a2 q hq
  · rw [up2_n (by omega), up2_n (by omega), up2_n (by omega), up2_n (by omega)]
    exact a3 i hi
theorem CWF.into (h : CWF x S P) (e : P1 = up2 P (x + 2) 2 v) : CWF x S P1 := by
  subst e
  obtain ⟨a1, a2, a3, a4, a5⟩ := h
  refine ⟨a1, fun q hq => ?_, fun i hi => ?_, fun j hj => ?_, fun s hs => ?_⟩
  · have hb : ¬ (q.1 = 2 ∧ q.2.1 = 2) := (by decide : ∀ q ∈ CRf, ¬ (q.1 = 2 ∧ q.2.1 = 2)) q hq
    rw [up2_n (by omega)]
    exact a2 q hq
  · rw [up2_n (by omega), up2_n (by omega), up2_n (by omega), up2_n (by omega)]
    exact a3 i hi
  · rw [up2_n (by omega), up2_n (by omega)]
    exact a4 j hj
  · rw [up2_n (by omega)]
    exact a5 s hs
end CTW
