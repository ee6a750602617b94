/-! ===== what the calls are, as functions of numbers ===== -/
theorem i_lt {a b : Int32} : a < b ↔ a.toInt < b.toInt := Int32.lt_iff_toInt_lt
theorem i_le {a b : Int32} : a ≤ b ↔ a.toInt ≤ b.toInt := Int32.le_iff_toInt_le
theorem i_eq {a b : Int32} : a = b ↔ a.toInt = b.toInt := Int32.toInt_inj.symm
theorem l_lt {a b : Int64} : a < b ↔ a.toInt < b.toInt := Int64.lt_iff_toInt_lt
theorem l_le {a b : Int64} : a ≤ b ↔ a.toInt ≤ b.toInt := Int64.le_iff_toInt_le
theorem l_eq {a b : Int64} : a = b ↔ a.toInt = b.toInt := Int64.toInt_inj.symm
theorem i_rng (x : Int32) : -2147483648 ≤ x.toInt ∧ x.toInt < 2147483648 := ⟨Int32.le_toInt x, Int32.toInt_lt x⟩
theorem i_wide (x : Int32) : x.toInt64.toInt = x.toInt := Int32.toInt_toInt64 x
theorem bm32 {z : Int} : ∃ k : Int, z.bmod (2 ^ 32) = z + 4294967296 * k ∧ -2147483648 ≤ z.bmod (2 ^ 32) ∧ z.bmod (2 ^ 32) < 2147483648 := by
  refine ⟨(z.bmod (2 ^ 32) - z) / 4294967296, ?_, ?_, ?_⟩
  · have h : (z.bmod (2 ^ 32) - z) % 4294967296 = 0 := by
      unfold Int.bmod
      simp only [show ((2 ^ 32 : Nat) : Int) = 4294967296 from rfl]
      split <;> omega
    omega
  · have := Int.le_bmod (x := z) (m := 2 ^ 32) (by decide); omega
  · have := Int.bmod_lt (x := z) (m := 2 ^ 32) (by decide); omega
theorem i_add (a b : Int32) : ∃ k : Int, (a + b).toInt = a.toInt + b.toInt + 4294967296 * k ∧ -2147483648 ≤ (a + b).toInt ∧ (a + b).toInt < 2147483648 := by
  rw [Int32.toInt_add]; exact bm32
theorem i_sub (a b : Int32) : ∃ k : Int, (a - b).toInt = a.toInt - b.toInt + 4294967296 * k ∧ -2147483648 ≤ (a - b).toInt ∧ (a - b).toInt < 2147483648 := by
  rw [Int32.toInt_sub]; exact bm32
theorem i_mul (a b : Int32) : ∃ k : Int, (a * b).toInt = a.toInt * b.toInt + 4294967296 * k ∧ -2147483648 ≤ (a * b).toInt ∧ (a * b).toInt < 2147483648 := by
  rw [Int32.toInt_mul]; exact bm32
theorem i_neg (a : Int32) : ∃ k : Int, (-a).toInt = -a.toInt + 4294967296 * k ∧ -2147483648 ≤ (-a).toInt ∧ (-a).toInt < 2147483648 := by
  rw [Int32.toInt_neg]; exact bm32
def s_m5 (a : Int32) : Int32 := a - a / 5 * 5
def s_abs (v : Int32) : Int32 := if v < 0 then -v else v
def s_far (a b : Int32) : Int32 := if s_abs (a / 5 - b / 5) < s_abs (s_m5 a - s_m5 b) then s_abs (s_m5 a - s_m5 b) else s_abs (a / 5 - b / 5)
def s_across (c : Int32) : Int32 := c - s_m5 c + 4 - s_m5 c
def s_within (v lo hi : Int32) : Int32 := if lo ≤ v then if v ≤ hi then v else hi else lo
def s_comes (kind aim fr : Int32) : Int32 := if kind = 3 then (if aim < 20 then aim + 5 else aim) else if kind = 4 ∨ (kind = 5 ∧ s_m5 fr < 2) then s_across aim else aim
def s_flight (kind number warm v : Int32) : Int32 :=
  if kind = 0 then v else if kind = 2 then (if warm < 20 then v / 2 else v) else if kind = 4 then (if warm < 20 then v / 2 else v) + 3
  else s_within (if kind = 3 then v + number + 10 else if kind = 5 then v + number - 2 else v + number) 0 2147483647
def s_spends (kind number : Int32) : Int32 := if kind = 3 then 0 else if kind = 5 then 3 else if kind = 2 ∨ kind = 4 then 1 + number / 2 else 1
/-- what a rule says: of part, far, warm, legs, quick, number, cell -/
abbrev RuleF : Type := Nat → Int32 → Int32 → Int32 → Int32 → Int32 → Int32 → Int32
def s_needs (E : RuleF) (w l q fr to : Int32) : Int32 := s_within (E 1 (s_far fr to) w l q 0 fr) 0 99 * s_far fr to
def s_tenths (E : RuleF) (w l q kind number c to : Int32) : Int32 := s_flight kind number w (s_within (E 0 (s_far c to) w l q number to) 0 99)
def s_slips (E : RuleF) (w l q number c to : Int32) : Int32 := s_within (E 2 (s_far c to) w l q number to) 0 100
/-- a court: cells of 0, 1; legs of 0, 1; warm -/
abbrev Crt : Type := Nat → Int32
/-- players' quick and home; a stroke's kind, number, aim -/
def s_to (kind aim : Int32) (p : Nat) (κ : Crt) : Int32 := s_comes kind aim (κ p)
def s_t (E : RuleF) (qk : Nat → Int32) (kind number aim : Int32) (p : Nat) (κ : Crt) : Int32 := s_tenths E (κ 4) (κ (2 + p)) (qk p) kind number (κ p) (s_to kind aim p κ)
def s_wins (E : RuleF) (qk : Nat → Int32) (kind number aim : Int32) (p : Nat) (κ : Crt) : Prop := s_t E qk kind number aim p κ < s_needs E (κ 4) (κ (2 + (1 - p))) (qk (1 - p)) (κ (1 - p)) (s_to kind aim p κ)
