/-! ===== what the calls are, as functions of numbers ===== -/
theorem i_lt {a b : Int32} : a < b ↔ a.toInt < b.toInt := Int32.lt_iff_toInt_lt
theorem i_le {a b : Int32} : a ≤ b ↔ a.toInt ≤ b.toInt := Int32.le_iff_toInt_le
theorem i_eq {a b : Int32} : a = b ↔ a.toInt = b.toInt := Int32.toInt_inj.symm
theorem l_lt {a b : Int64} : a < b ↔ a.toInt < b.toInt := Int64.lt_iff_toInt_lt
theorem l_le {a b : Int64} : a ≤ b ↔ a.toInt ≤ b.toInt := Int64.le_iff_toInt_le
theorem l_eq {a b : Int64} : a = b ↔ a.toInt = b.toInt := Int64.toInt_inj.symm
theorem i_rng (x : Int32) : -2147483648 ≤ x.toInt ∧ x.toInt < 2147483648 := ⟨Int32.le_toInt x, Int32.toInt_lt x⟩
theorem i_wide (x : Int32) : x.toInt64.toInt = x.toInt := Int32.toInt_toInt64 x
theorem bm32 {z : Int} : ∃ k : Int, z.bmod (2 ^ 32) = z + 4294967296 * k ∧ -2147483648 ≤ z.bmod (2 ^ 32) ∧ z.bmod (2 ^ 32) < 2147483648 := by
  refine ⟨(z.bmod (2 ^ 32) - z) / 4294967296, ?_, ?_, ?_⟩
  · have h : (z.bmod (2 ^ 32) - z) % 4294967296 = 0 := by
      unfold Int.bmod
      simp only [show ((2 ^ 32 : Nat) : Int) = 4294967296 from rfl]
      split <;> omega
    omega
  · have := Int.le_bmod (x := z) (m := 2 ^ 32) (by decide); omega
  · have := Int.bmod_lt (x := z) (m := 2 ^ 32) (by decide); omega
theorem i_add (a b : Int32) : ∃ k : Int, (a + b).toInt = a.toInt + b.toInt + 4294967296 * k ∧ -2147483648 ≤ (a + b).toInt ∧ (a + b).toInt < 2147483648 := by
  rw [Int32.toInt_add]; exact bm32
theorem i_sub (a b : Int32) : ∃ k : Int, (a - b).toInt = a.toInt - b.toInt + 4294967296 * k ∧ -2147483648 ≤ (a - b).toInt ∧ (a - b).toInt < 2147483648 := by
  rw [Int32.toInt_sub]; exact bm32
theorem i_mul (a b : Int32) : ∃ k : Int, (a * b).toInt = a.toInt * b.toInt + 4294967296 * k ∧ -2147483648 ≤ (a * b).toInt ∧ (a * b).toInt < 2147483648 := by
  rw [Int32.toInt_mul]; exact bm32
theorem i_neg (a : Int32) : ∃ k : Int, (-a).toInt = -a.toInt + 4294967296 * k ∧ -2147483648 ≤ (-a).toInt ∧ (-a).toInt < 2147483648 := by
  rw [Int32.toInt_neg]; exact bm32
def s_m5 (a : Int32) : Int32 := a - a / 5 * 5
def s_abs (v : Int32) : Int32 := if v < 0 then -v else v
def s_far (a b : Int32) : Int32 := if s_abs (a / 5 - b / 5) < s_abs (s_m5 a - s_m5 b) then s_abs (s_m5 a - s_m5 b) else s_abs (a / 5 - b / 5)
def s_across (c : Int32) : Int32 := c - s_m5 c + 4 - s_m5 c
def s_within (v lo hi : Int32) : Int32 := if lo ≤ v then if v ≤ hi then v else hi else lo
def s_comes (kind aim fr : Int32) : Int32 := if kind = 3 then (if aim < 20 then aim + 5 else aim) else if kind = 4 ∨ (kind = 5 ∧ ¬ 2 ≤ s_m5 fr) then s_across aim else aim
def s_flight (kind number warm v : Int32) : Int32 :=
  if kind = 0 then v else if kind = 2 then (if 20 ≤ warm then v else v / 2) else if kind = 4 then (if 20 ≤ warm then v else v / 2) + 3
  else if 0 ≤ (if kind = 3 then v + number + 10 else if kind = 5 then v + number - 2 else v + number) then (if kind = 3 then v + number + 10 else if kind = 5 then v + number - 2 else v + number) else 0
def s_spends (kind number : Int32) : Int32 := if kind = 3 then 0 else if kind = 5 then 3 else if kind = 2 ∨ kind = 4 then 1 + number / 2 else 1
/-- what a rule says: of part, far, warm, legs, quick, number, cell -/
abbrev RuleF : Type := Nat → Int32 → Int32 → Int32 → Int32 → Int32 → Int32 → Int32
def s_needs (E : RuleF) (w l q fr to : Int32) : Int32 := s_within (E 1 (s_far fr to) w l q 0 fr) 0 99 * s_far fr to
def s_tenths (E : RuleF) (w l q kind number c to : Int32) : Int32 := s_flight kind number w (s_within (E 0 (s_far c to) w l q number to) 0 99)
def s_slips (E : RuleF) (w l q number c to : Int32) : Int32 := s_within (E 2 (s_far c to) w l q number to) 0 100
/-- a court: cells of 0, 1; legs of 0, 1; warm -/
abbrev Crt : Type := Nat → Int32
/-- players' quick and home; a stroke's kind, number, aim -/
def s_to (kind aim : Int32) (p : Nat) (κ : Crt) : Int32 := s_comes kind aim (κ p)
def s_t (E : RuleF) (qk : Nat → Int32) (kind number aim : Int32) (p : Nat) (κ : Crt) : Int32 := s_tenths E (κ 4) (κ (2 + p)) (qk p) kind number (κ p) (s_to kind aim p κ)
def s_wins (E : RuleF) (qk : Nat → Int32) (kind number aim : Int32) (p : Nat) (κ : Crt) : Prop := s_t E qk kind number aim p κ < s_needs E (κ 4) (κ (2 + (1 - p))) (qk (1 - p)) (κ (1 - p)) (s_to kind aim p κ)
def s_legs1 (kind number : Int32) (p : Nat) (κ : Crt) : Int32 := s_within (κ (2 + p) - s_spends kind number) 0 999
abbrev s_win (E : RuleF) (qk : Nat → Int32) (kind number aim : Int32) (p : Nat) (κ : Crt) : Prop := s_t E qk kind number aim p κ < s_needs E (κ 4) (κ (2 + (1 - p))) (qk (1 - p)) (κ (1 - p)) (s_to kind aim p κ)
abbrev s_home (E : RuleF) (qk hm : Nat → Int32) (kind number aim : Int32) (p : Nat) (κ : Crt) : Prop := ¬ hm p = -1 ∧ s_needs E (κ 4) (s_legs1 kind number p κ) (qk p) (κ p) (hm p) ≤ s_t E qk kind number aim p κ
def s_after (E : RuleF) (qk hm : Nat → Int32) (kind number aim : Int32) (p : Nat) (κ : Crt) : Crt := fun j =>
  if s_win E qk kind number aim p κ then (if j = 2 + p then s_legs1 kind number p κ else κ j)
  else if j = 4 then s_within (κ 4 + 1) 0 99
  else if j = p then (if s_home E qk hm kind number aim p κ then hm p else κ p)
  else if j = 1 - p then s_to kind aim p κ
  else if j = 2 + p then (if s_home E qk hm kind number aim p κ then s_within (s_legs1 kind number p κ - s_far (κ p) (hm p)) 0 999 else s_legs1 kind number p κ)
  else if j = 2 + (1 - p) then s_within (κ (2 + (1 - p)) - s_far (κ (1 - p)) (s_to kind aim p κ)) 0 999
  else κ j
theorem lcmp_lt {x y : Int64} : lg_cmp x y < 0 ↔ x.toInt < y.toInt := by
  unfold lg_cmp
  simp only [gt_iff_lt, l_lt, l_eq]
  split
  · constructor
    · intro h; exact absurd h (by decide)
    · intro h; omega
  · split
    · constructor
      · intro h; exact absurd h (by decide)
      · intro h; omega
    · constructor
      · intro _; omega
      · intro _; decide
theorem lcmp_gt {x y : Int64} : 0 < lg_cmp x y ↔ y.toInt < x.toInt := by
  unfold lg_cmp
  simp only [gt_iff_lt, l_lt, l_eq]
  split
  · constructor
    · intro _; assumption
    · intro _; decide
  · split
    · constructor
      · intro h; exact absurd h (by decide)
      · intro h; omega
    · constructor
      · intro h; exact absurd h (by decide)
      · intro h; omega
theorem ans_i {r r' : Int32} {μ : Mem} (h : r = r') : ansI r' μ (some (.int r)) μ := ⟨by rw [h], rfl⟩
theorem ans_i2 {r r' : Int32} {μ μ' : Mem} (h : r = r') (e : μ = μ') : ansI r' μ' (some (.int r)) μ := ⟨by rw [h], e⟩
theorem ans_l {r r' : Int64} {μ : Mem} (h : r = r') : ansL r' μ (some (.long r)) μ := ⟨by rw [h], rfl⟩
theorem mem_eq {n : Nat} {S : Nat → Nat × Nat} {M M' : Nat → Nat → Int32} {L : Nat → Nat → Int64} {P : Nat → Nat → Option Nat} (h : M = M') : ((n, S, M, L, P) : Mem) = (n, S, M', L, P) := by rw [h]
theorem e_sub1 {p : Nat} (h : p < 2) : (1 : Int32) - nI p = nI (1 - p) := pk_sub (a := 1) (b := p) (by omega)
theorem two_c {k p : Nat} (hk : k < 2) (hp : p < 2) : k = p ∨ k = 1 - p := by omega
/-! the reference's memory: its object o, its arrays behind it -/
def RLy : List (Nat × Nat × Nat × Nat) := [(1, 1, 20, 960), (2, 2, 20, 6), (5, 3, 20, 160), (7, 4, 20, 2), (8, 5, 20, 2), (9, 6, 20, 2), (10, 7, 20, 2), (12, 8, 20, 6), (13, 9, 20, 6), (14, 10, 20, 6), (32, 11, 20, 60), (38, 12, 20, 40), (42, 13, 20, 8), (43, 14, 20, 12), (47, 15, 21, 4), (48, 16, 20, 4), (49, 17, 20, 4), (50, 18, 20, 160)]
def RWF (o : Nat) (S : Nat → Nat × Nat) (P : Nat → Nat → Option Nat) : Prop := (S o).1 = 13 ∧ ∀ q ∈ RLy, P o q.1 = some (o + q.2.1) ∧ S (o + q.2.1) = q.2.2
/-- what the parser's fields hold may be anything -/
def HSR (o : Nat) (sc : Nat → Nat → Prop) : Prop := (∀ k, k < 16 ∨ 30 < k → ¬ sc o k) ∧ (∀ t k, 0 < t → t < 19 → ¬ sc (o + t) k) ∧ ∀ k, 16 ≤ k → k ≤ 30 → sc o k
def rGet (o : Nat) (M : Nat → Nat → Int32) : Crt := fun j => if j < 2 then M (o + 4) j else if j < 4 then M (o + 5) (j - 2) else if j = 4 then M o 11 else 0
def rPut (o : Nat) (M : Nat → Nat → Int32) (κ : Crt) : Nat → Nat → Int32 := fun b k => if b = o + 4 ∧ k < 2 then κ k else if b = o + 5 ∧ k < 2 then κ (2 + k) else if b = o ∧ k = 11 then κ 4 else M b k
theorem rg0 {o p : Nat} {M : Nat → Nat → Int32} (h : p < 2) : rGet o M p = M (o + 4) p := if_pos h
theorem rg1 {o p : Nat} {M : Nat → Nat → Int32} (h : p < 2) : rGet o M (2 + p) = M (o + 5) p := by
  unfold rGet
  rw [if_neg (by omega), if_pos (by omega), show 2 + p - 2 = p by omega]
theorem rg4 {o : Nat} {M : Nat → Nat → Int32} : rGet o M 4 = M o 11 := rfl
theorem rPut_eq {o : Nat} {M M' : Nat → Nat → Int32} {κ : Crt} (p : Nat) (hp : p < 2) (h0 : M' (o + 4) p = κ p) (h1 : M' (o + 4) (1 - p) = κ (1 - p)) (h2 : M' (o + 5) p = κ (2 + p)) (h3 : M' (o + 5) (1 - p) = κ (2 + (1 - p))) (h4 : M' o 11 = κ 4)
    (h5 : ∀ b k, ¬ (b = o + 4 ∧ k < 2) → ¬ (b = o + 5 ∧ k < 2) → ¬ (b = o ∧ k = 11) → M' b k = M b k) : M' = rPut o M κ := by
  funext b k
  unfold rPut
  split
  · rename_i h
    obtain ⟨rfl, hk⟩ := h
    rcases two_c hk hp with rfl | rfl <;> assumption
  · split
    · rename_i h
      obtain ⟨rfl, hk⟩ := h
      rcases two_c hk hp with rfl | rfl <;> assumption
    · split
      · rename_i h
        obtain ⟨rfl, rfl⟩ := h
        exact h4
      · exact h5 b k (by assumption) (by assumption) (by assumption)
theorem i_max (x : Int32) : x ≤ 2147483647 := by
  rw [i_le]
  have := i_rng x
  show x.toInt ≤ 2147483647
  omega
theorem strikes_eq {o : Nat} {M M' : Nat → Nat → Int32} {κ : Crt} {ct : Int32} (p : Nat) (hp : p < 2) (hc : M' o 31 = ct) (h0 : M' (o + 4) p = κ p) (h1 : M' (o + 4) (1 - p) = κ (1 - p)) (h2 : M' (o + 5) p = κ (2 + p)) (h3 : M' (o + 5) (1 - p) = κ (2 + (1 - p))) (h4 : M' o 11 = κ 4)
    (h5 : ∀ b k, ¬ (b = o ∧ k = 31) → ¬ (b = o + 4 ∧ k < 2) → ¬ (b = o + 5 ∧ k < 2) → ¬ (b = o ∧ k = 11) → M' b k = M b k) : M' = up2 (rPut o M κ) o 31 ct := by
  funext b k
  by_cases q : b = o ∧ k = 31
  · obtain ⟨rfl, rfl⟩ := q
    rw [hc, up2_s]
  · rw [up2_n q]
    have e : ∀ b k, ¬ (b = o ∧ k = 31) → M' b k = rPut o M κ b k := by
      intro b k q
      unfold rPut
      split
      · rename_i h
        obtain ⟨rfl, hk⟩ := h
        rcases two_c hk hp with rfl | rfl <;> assumption
      · split
        · rename_i h
          obtain ⟨rfl, hk⟩ := h
          rcases two_c hk hp with rfl | rfl <;> assumption
        · split
          · rename_i h
            obtain ⟨rfl, rfl⟩ := h
            exact h4
          · exact h5 b k q (by assumption) (by assumption) (by assumption)
    exact e b k q
section SA
variable {E : RuleF} {qk hm : Nat → Int32} {kind number aim : Int32} {p : Nat} {κ : Crt}
theorem sa_w (h : s_win E qk kind number aim p κ) : s_after E qk hm kind number aim p κ (2 + p) = s_legs1 kind number p κ ∧ ∀ j, j ≠ 2 + p → s_after E qk hm kind number aim p κ j = κ j := by
  refine ⟨?_, fun j hj => ?_⟩
  · unfold s_after; rw [if_pos h, if_pos rfl]
  · unfold s_after; rw [if_pos h, if_neg hj]
theorem sa_n (h : ¬ s_win E qk kind number aim p κ) (hp : p < 2) : s_after E qk hm kind number aim p κ 4 = s_within (κ 4 + 1) 0 99 ∧ s_after E qk hm kind number aim p κ p = (if s_home E qk hm kind number aim p κ then hm p else κ p) ∧ s_after E qk hm kind number aim p κ (1 - p) = s_to kind aim p κ ∧
    s_after E qk hm kind number aim p κ (2 + p) = (if s_home E qk hm kind number aim p κ then s_within (s_legs1 kind number p κ - s_far (κ p) (hm p)) 0 999 else s_legs1 kind number p κ) ∧ s_after E qk hm kind number aim p κ (2 + (1 - p)) = s_within (κ (2 + (1 - p)) - s_far (κ (1 - p)) (s_to kind aim p κ)) 0 999 := by
  refine ⟨?_, ?_, ?_, ?_, ?_⟩ <;> (unfold s_after; rw [if_neg h])
  · rw [if_pos rfl]
  · rw [if_neg (by omega), if_pos rfl]
  · rw [if_neg (by omega), if_neg (by omega), if_pos rfl]
  · rw [if_neg (by omega), if_neg (by omega), if_neg (by omega), if_pos rfl]
  · rw [if_neg (by omega), if_neg (by omega), if_neg (by omega), if_neg (by omega), if_pos rfl]
end SA
theorem rd_a {α : Type} {M1 M M0 : Nat → Nat → α} {a k b : Nat} {v : α} (h : M1 = up2 M a k v) (hn : b ≠ a) (e : M b = M0 b) : M1 b = M0 b := by rw [h, up2_a hn]; exact e
theorem i_nle {x y : Int32} (h : ¬ x ≤ y) : y < x := Int32.not_le.mp h
theorem i_nlt {x y : Int32} (h : x ≤ y) : ¬ y < x := Int32.not_lt.mpr h
theorem i_nle2 {x y : Int32} (h : x < y) : ¬ y ≤ x := Int32.not_le.mpr h
theorem i_le2 {x y : Int32} (h : ¬ x < y) : y ≤ x := Int32.not_lt.mp h
