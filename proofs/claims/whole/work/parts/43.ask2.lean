/-! ===== draws, balls, tries ===== -/
/-- the next of the seeds; the number that is taken from one -/
def s_next (z : Int32) : Int32 := z * 1103515245 + 12345
def s_rnd (z : Int32) : Nat := (z.toUInt32 >>> ((9 : Int32).toUInt32 &&& Int32.toUInt32 31)).toNat
theorem s_rnd_e (z : Int32) : (z.toUInt32 >>> ((9 : Int32).toUInt32 &&& Int32.toUInt32 31)).toInt32 = nI (s_rnd z) := by
  show _ = Int32.ofNat _
  unfold s_rnd
  generalize z.toUInt32 >>> ((9 : Int32).toUInt32 &&& Int32.toUInt32 31) = u
  apply Int32.toBitVec_inj.mp
  simp
theorem s_rnd_lt (z : Int32) : s_rnd z < 8388608 := by
  unfold s_rnd
  rw [show ((9 : Int32).toUInt32 &&& Int32.toUInt32 31) = 9 from by decide]
  rw [UInt32.toNat_shiftRight]
  have := z.toUInt32.toNat_lt
  show z.toUInt32.toNat >>> 9 < _
  rw [Nat.shiftRight_eq_div_pow]
  omega
/-- who wins of d strokes yet, the k-th being next -/
noncomputable def zdr : Nat → Abs → Nat → Int32 → Int32
  | 0, _, _, _ => -1
  | d + 1, A, k, z => by
    classical
    exact if zw A (s_rnd (s_next z) % zcnt A) (k % 2) then nI (k % 2) else zdr d (zPut A (za A (s_rnd (s_next z) % zcnt A) (k % 2))) (k + 1) (s_next z)
noncomputable def zr_drawn (A : Abs) (seed : Int32) : Int32 := if A.1 8 0 = 0 then -1 else zdr 40 A 0 seed
/-- how many of n draws the first player wins -/
noncomputable def zabove (A : Abs) (seed : Int32) : Nat → Nat
  | 0 => 0
  | k + 1 => zabove A seed k + (if zr_drawn A (seed + nI k) = 0 then 1 else 0)
abbrev nL (n : Nat) : Int64 := Int64.ofNat n
noncomputable def zr_chance (A : Abs) (seed n part : Int32) : Int64 := by
  classical
  exact if ¬ ((1 ≤ n.toInt ∧ n.toInt ≤ 20) ∧ isPl part) then -4611686018427387904 else if part = 0 then nL (zabove A seed (i2n n) / Nat.gcd (zabove A seed (i2n n)) (i2n n)) else nL (i2n n / Nat.gcd (zabove A seed (i2n n)) (i2n n))
theorem zabove_le {A : Abs} {seed : Int32} (n : Nat) : zabove A seed n ≤ n := by
  induction n with
  | zero => exact Nat.le_refl 0
  | succ n ih =>
    show zabove A seed n + _ ≤ _
    split <;> omega
theorem nL_rem : ∀ a, a < 21 → ∀ b, b < 21 → ¬ b = 0 → nL a - nL a / nL b * nL b = nL (a % b) := by decide +kernel
theorem nL_div : ∀ a, a < 21 → ∀ b, b < 21 → ¬ b = 0 → nL a / nL b = nL (a / b) := by decide +kernel
theorem nL_1 : ∀ a, a < 21 → nL a + 1 = nL (a + 1) := by decide +kernel
theorem nL_0 : ∀ a, a < 21 → (lg_cmp (nL a) 0 = 0 ↔ a = 0) := by decide +kernel
theorem nL_w : ∀ a, a < 21 → (nI a).toInt64 = nL a := by decide +kernel
theorem zPut_cnt {A : Abs} {κ : Crt} : (zPut A κ).1 8 0 = A.1 8 0 := zPut_o (by decide)
theorem zPut_zcnt {A : Abs} {κ : Crt} : zcnt (zPut A κ) = zcnt A := by show i2n _ = i2n _; rw [zPut_cnt]
/-! what is changed: quick of a player, or the rule -/
def zSet (A : Abs) (what : Nat) (v : Int32) : Abs := (fun b k => if what = 2 then (if b = 9 ∧ k = 0 then v else A.1 b k) else if b = 2 ∧ k = what then v else A.1 b k, A.2)
noncomputable def zbits (f : Nat → Prop) : Nat → Int32
  | 0 => 0
  | k + 1 => by
    classical
    exact zbits f k ||| (b2 (f k) <<< (nI k &&& 31))
noncomputable def zr_quicks (A : Abs) (s what who : Int32) : Int32 := by
  classical
  exact if ¬ (isSh s ∧ (0 ≤ what.toInt ∧ what.toInt ≤ 2) ∧ (-1 ≤ who.toInt ∧ who.toInt ≤ 1)) then -2 else if z_rb A s = 0 then zbits (fun v => sr_wins (z_fin (zSet A (i2n what) (nI v)) (i2n s)) = who) (if what = 2 then i2n (A.1 10 0) else 10) else z_rb A s
/-! rows of strokes whose balls were seen -/
def zfl (f : Nat → List Int32) : Nat → Nat → List Int32
  | 0, _ => []
  | d + 1, k => f k ++ zfl f d (k + 1)
noncomputable def zgo (s : Nat) : Nat → Abs → Nat → Int32 → List Int32
  | 0, _, _, dg => [dg]
  | d + 1, A, at', dg => by
    classical
    exact zfl (fun k => if s_comes (A.1 5 k) (A.1 7 k) (A.1 0 (at' % 2)) = A.1 (20 + s) at' ∧ (¬ zw A k (at' % 2) ∨ d = 0) then zgo s d (zPut A (za A k (at' % 2))) (at' + 1) (10 * dg + nI k + 1) else []) (zcnt A) 0
def zst (q : Int32 × Int32) (dg : Int32) : Int32 × Int32 := (q.1 + 1, if q.1 + 1 = 1 then dg else q.2)
noncomputable def zr_balls (A : Abs) (s what : Int32) : Int32 := by
  classical
  exact if ¬ (isSh s ∧ isPl what) then -2 else if A.1 16 (i2n s) = 0 then -11 else if 4 < A.1 18 (i2n s) then -2 else if what = 0 then ((zgo (i2n s) (zN A (i2n s)) A 0 0).foldl zst (0, -1)).1 else ((zgo (i2n s) (zN A (i2n s)) A 0 0).foldl zst (0, -1)).2
theorem zabove_1 {A : Abs} {seed : Int32} {k : Nat} (h : zr_drawn A (seed + nI k) = 0) : zabove A seed (k + 1) = zabove A seed k + 1 := by
  rw [zabove, if_pos h]
theorem zabove_0 {A : Abs} {seed : Int32} {k : Nat} (h : ¬ zr_drawn A (seed + nI k) = 0) : zabove A seed (k + 1) = zabove A seed k := by
  rw [zabove, if_neg h, Nat.add_zero]
