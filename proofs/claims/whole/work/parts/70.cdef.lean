/-! ===== the class: where its objects lie ===== -/
/-- offset, slot, offset of what stands there -/
def CRf : List (Nat × Nat × Nat) :=
  [(0, 0, 1), (0, 1, 2), (0, 3, 4), (0, 5, 40), (0, 6, 43), (0, 7, 5), (0, 8, 46), (0, 9, 6), (0, 10, 7), (0, 12, 8), (0, 13, 9), (2, 0, 3),
   (1, 0, 10), (1, 1, 15), (1, 2, 20), (1, 3, 25), (1, 4, 30), (1, 5, 35), (5, 0, 49), (5, 1, 52), (5, 2, 55), (5, 3, 58), (5, 4, 61), (5, 5, 64), (8, 0, 67), (8, 1, 69), (8, 2, 71), (8, 3, 73)]
def CSh : List (Nat × Nat × Nat) := [(0, 12, 0), (1, 22, 6), (2, 10, 0), (3, 20, 160), (4, 23, 6), (5, 24, 6), (6, 20, 6), (7, 20, 6), (8, 25, 4), (9, 20, 40)]
/-- the class lies at x: itself, the texts, the courts, the sheets -/
def CWF (x : Nat) (S : Nat → Nat × Nat) (P : Nat → Nat → Option Nat) : Prop :=
  (∀ q ∈ CSh, S (x + q.1) = q.2) ∧ (∀ q ∈ CRf, P (x + q.1) q.2.1 = some (x + q.2.2)) ∧
  (∀ i, i < 6 → S (x + 10 + 5 * i) = (11, 0) ∧ S (x + 10 + 5 * i + 1) = (20, 160) ∧ S (x + 10 + 5 * i + 2) = (20, 160) ∧ S (x + 10 + 5 * i + 3) = (20, 6) ∧ S (x + 10 + 5 * i + 4) = (20, 3) ∧ P (x + 10 + 5 * i) 1 = some (x + 10 + 5 * i + 1) ∧ P (x + 10 + 5 * i) 2 = some (x + 10 + 5 * i + 2) ∧ P (x + 10 + 5 * i) 3 = some (x + 10 + 5 * i + 3) ∧ P (x + 10 + 5 * i) 4 = some (x + 10 + 5 * i + 4)) ∧
  (∀ j, j < 9 → S (x + 40 + 3 * j) = (2, 0) ∧ S (x + 40 + 3 * j + 1) = (7, 0) ∧ S (x + 40 + 3 * j + 2) = (7, 0) ∧ P (x + 40 + 3 * j) 0 = some (x + 40 + 3 * j + 1) ∧ P (x + 40 + 3 * j) 1 = some (x + 40 + 3 * j + 2)) ∧
  (∀ s, s < 4 → S (x + 67 + 2 * s) = (8, 0) ∧ S (x + 67 + 2 * s + 1) = (20, 40) ∧ P (x + 67 + 2 * s) 0 = some (x + 67 + 2 * s + 1))
/-- the stacks and names of the texts may hold anything, nothing else of the class -/
def HSC (x : Nat) (sc : Nat → Nat → Prop) : Prop := (∀ b k, x ≤ b → b < x + 75 → ¬ (x + 10 ≤ b ∧ b < x + 40 ∧ ((b - (x + 10)) % 5 = 2 ∨ (b - (x + 10)) % 5 = 3)) → ¬ sc b k) ∧ (∀ b k, x + 94 ≤ b → ¬ sc b k) ∧ ∀ b k, x + 10 ≤ b → b < x + 40 → ((b - (x + 10)) % 5 = 2 ∨ (b - (x + 10)) % 5 = 3) → sc b k
/-- the classes of strokes and their kinds -/
def s_kd (ci : Nat) : Int32 := match ci with
  | 4 => 1
  | 3 => 2
  | 5 => 3
  | 0 => 4
  | 2 => 5
  | _ => 0
abbrev isSc (ci : Nat) : Prop := ci = 0 ∨ ci = 2 ∨ ci = 3 ∨ ci = 4 ∨ ci = 5 ∨ ci = 8
/-- a stroke at a: of a kind, a number, an aim -/
def STK (S : Nat → Nat × Nat) (M : Nat → Nat → Int32) (a : Nat) (kd nb am : Int32) : Prop := ∃ ci, isSc ci ∧ (S a).1 = ci + 1 ∧ kd = s_kd ci ∧ M a 0 = nb ∧ M a 1 = am
/-- a court at c -/
def cG (c : Nat) (M : Nat → Nat → Int32) : Crt := fun j => if j < 2 then M (c + 1 + j) 0 else if j < 4 then M (c + 1 + (j - 2)) 1 else if j = 4 then M c 2 else 0
abbrev cQ (c : Nat) (M : Nat → Nat → Int32) : Nat → Int32 := t2 (fun p => M (c + 1 + p) 2)
abbrev cH (c : Nat) (M : Nat → Nat → Int32) : Nat → Int32 := t2 (fun p => M (c + 1 + p) 3)
/-! codes -/
def s_join (op a b : Int32) : Int32 :=
  if op = -9 then b2 (¬ a = 0 ∨ ¬ b = 0) else if op = -10 then b2 (¬ a = 0 ∧ ¬ b = 0) else if op = -11 then b2 (a < b) else if op = -12 then b2 (a = b) else if op = -13 then a + b else if op = -14 then a - b else a * b
def crun1 (nm : Nms) (st : List Int32) (op : Int32) : List Int32 :=
  if -6 ≤ op then (if 0 ≤ op then op else nm (-1 - op).toNatClampNeg) :: st
  else if -8 ≤ op then (match st with
    | [] => []
    | a :: r => (if op = -8 then - a else b2 (a = 0)) :: r)
  else match st with
    | b :: a :: r => s_join op a b :: r
    | [b] => [b]
    | [] => []
def crun (nm : Nms) (ops : List Int32) (st : List Int32) : List Int32 := ops.foldl (crun1 nm) st
/-- a code says d -/
def CEV (c : List Int32) (d : Nms → Int32) : Prop := ∀ nm st, crun nm c st = d nm :: st
theorem crun_app {nm : Nms} {c c' st : List Int32} : crun nm (c ++ c') st = crun nm c' (crun nm c st) := List.foldl_append
theorem crun1_len {nm : Nms} {st : List Int32} {op : Int32} : (crun1 nm st op).length ≤ st.length + 1 := by
  unfold crun1
  split
  · exact Nat.le_refl _
  · split
    · match st with
      | [] => exact Nat.zero_le _
      | a :: r => exact Nat.le_succ _
    · match st with
      | [] => exact Nat.zero_le _
      | [b] => exact Nat.le_succ _
      | b :: a :: r => show r.length + 1 ≤ r.length + 1 + 1 + 1; omega
/-- the text at t says E -/
def TXC (t : Nat) (M : Nat → Nat → Int32) (E : RuleF) : Prop := ∃ c0 c1 c2 d0 d1 d2, E = zEf d0 d1 d2 ∧ CEV c0 d0 ∧ CEV c1 d1 ∧ CEV c2 d2 ∧ c0.length + c1.length + c2.length ≤ 160 ∧
  M (t + 4) 0 = nI c0.length ∧ M (t + 4) 1 = nI (c0.length + c1.length) ∧ M (t + 4) 2 = nI (c0.length + c1.length + c2.length) ∧ ∀ i, i < c0.length + c1.length + c2.length → M (t + 1) i = (c0 ++ c1 ++ c2).getD i 0
theorem TXC.keep {t : Nat} {M M' : Nat → Nat → Int32} {E : RuleF} (h : TXC t M E) (h4 : ∀ k, M' (t + 4) k = M (t + 4) k) (h1 : ∀ k, M' (t + 1) k = M (t + 1) k) : TXC t M' E := by
  obtain ⟨c0, c1, c2, d0, d1, d2, a0, a1, a2, a3, a4, a5, a6, a7, a8⟩ := h
  exact ⟨c0, c1, c2, d0, d1, d2, a0, a1, a2, a3, a4, (h4 _).trans a5, (h4 _).trans a6, (h4 _).trans a7, fun i hi => (h1 _).trans (a8 i hi)⟩
/-! numbers -/
theorem abs_e {v : Int32} : (if 0 ≤ v then v else 0 - v) = s_abs v := by
  unfold s_abs
  by_cases h : v < 0
  · rw [if_pos h, if_neg (Int32.not_le.mpr h), Int32.zero_sub]
  · rw [if_neg h, if_pos (Int32.not_lt.mp h)]
theorem max_c {a b : Int32} : (if a < b then b else a) = (if b < a then a else b) := by
  by_cases h : a < b
  · rw [if_pos h, if_neg (Int32.not_lt.mpr (Int32.le_of_lt h))]
  · rw [if_neg h]
    by_cases h2 : b < a
    · rw [if_pos h2]
    · rw [if_neg h2]
      exact Int32.le_antisymm (Int32.not_lt.mp h2) (Int32.not_lt.mp h)
theorem x51 {v : Int32} : v + 5 - 1 = v + 4 := by
  rw [i_eq]
  obtain ⟨k1, h1, -⟩ := i_add v 5
  obtain ⟨k2, h2, h2a, h2b⟩ := i_sub (v + 5) 1
  obtain ⟨k3, h3, h3a, h3b⟩ := i_add v 4
  have e5 : (5 : Int32).toInt = 5 := rfl
  have e1 : (1 : Int32).toInt = 1 := rfl
  have e4 : (4 : Int32).toInt = 4 := rfl
  omega
theorem within_e {v m : Int32} (hm : 0 ≤ m.toInt) : (if 0 < (if v < m then v else m) then (if v < m then v else m) else 0) = s_within v 0 m := by
  unfold s_within
  simp only [i_lt, i_le, show (0 : Int32).toInt = 0 from rfl]
  by_cases h : v.toInt < m.toInt
  · rw [if_pos h]
    by_cases h0 : 0 < v.toInt
    · rw [if_pos h0, if_pos (by omega), if_pos (by omega)]
    · rw [if_neg h0]
      by_cases h1 : 0 ≤ v.toInt
      · rw [if_pos h1, if_pos (by omega), i_eq]
        show (0 : Int) = _
        omega
      · rw [if_neg h1]
  · rw [if_neg h, if_pos (show (0 : Int) ≤ v.toInt by omega)]
    by_cases h2 : v.toInt ≤ m.toInt
    · rw [if_pos h2]
      have e : v = m := by rw [i_eq]; omega
      rw [e]
      by_cases h0 : 0 < m.toInt
      · rw [if_pos h0]
      · rw [if_neg h0, i_eq]
        show (0 : Int) = _
        omega
    · rw [if_neg h2]
      by_cases h0 : 0 < m.toInt
      · rw [if_pos h0]
      · rw [if_neg h0, i_eq]
        show (0 : Int) = _
        omega
/-- max(0, v), for v not above m -/
theorem max0_w {v m : Int32} (h : v.toInt ≤ m.toInt) : (if 0 < v then v else 0) = s_within v 0 m := by
  unfold s_within
  simp only [i_lt, i_le, show (0 : Int32).toInt = 0 from rfl]
  by_cases h0 : 0 < v.toInt
  · rw [if_pos h0, if_pos (by omega), if_pos h]
  · rw [if_neg h0]
    by_cases h1 : 0 ≤ v.toInt
    · rw [if_pos h1, if_pos h, i_eq]
      show (0 : Int) = _
      omega
    · rw [if_neg h1]
theorem CWF.sh {x : Nat} {S : Nat → Nat × Nat} {P : Nat → Nat → Option Nat} (h : CWF x S P) {t k m : Nat} (hq : (t, k, m) ∈ CSh) : S (x + t) = (k, m) := h.1 (t, k, m) hq
theorem CWF.rf {x : Nat} {S : Nat → Nat × Nat} {P : Nat → Nat → Option Nat} (h : CWF x S P) {t s u : Nat} (hq : (t, s, u) ∈ CRf) : P (x + t) s = some (x + u) := h.2.1 (t, s, u) hq
