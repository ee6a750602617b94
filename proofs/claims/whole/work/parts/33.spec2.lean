/-! ===== rallies as functions ===== -/
def t2 (f : Nat → Int32) : Nat → Int32 := fun p => if p = 0 then f 0 else f 1
theorem t2_e {f : Nat → Int32} {p : Nat} (hp : p < 2) : t2 f p = f p := by
  unfold t2
  split
  · rename_i h; rw [h]
  · rw [show p = 1 by omega]
theorem sw_t2 {E : RuleF} {qk : Nat → Int32} {kind number aim : Int32} {p : Nat} {κ : Crt} (hp : p < 2) : s_win E (t2 qk) kind number aim p κ ↔ s_win E qk kind number aim p κ := by
  unfold s_win s_t
  rw [t2_e hp, t2_e (p := 1 - p) (by omega)]
theorem sh_t2 {E : RuleF} {qk hm : Nat → Int32} {kind number aim : Int32} {p : Nat} {κ : Crt} (hp : p < 2) : s_home E (t2 qk) (t2 hm) kind number aim p κ ↔ s_home E qk hm kind number aim p κ := by
  unfold s_home s_t
  rw [t2_e hp, t2_e hp]
theorem sa_t2 {E : RuleF} {qk hm : Nat → Int32} {kind number aim : Int32} {p : Nat} {κ : Crt} (hp : p < 2) : s_after E (t2 qk) (t2 hm) kind number aim p κ = s_after E qk hm kind number aim p κ := by
  funext j
  unfold s_after
  by_cases h : s_win E qk kind number aim p κ
  · rw [if_pos h, if_pos (sw_t2 hp |>.mpr h)]
  · rw [if_neg h, if_neg (fun z => h (sw_t2 hp |>.mp z))]
    by_cases g : s_home E qk hm kind number aim p κ
    · simp only [if_pos g, if_pos (sh_t2 hp |>.mpr g), t2_e hp]
    · simp only [if_neg g, if_neg (fun z => g (sh_t2 hp |>.mp z))]
theorem sa_hi {E : RuleF} {qk hm : Nat → Int32} {kind number aim : Int32} {p : Nat} {κ : Crt} (hp : p < 2) {j : Nat} (hj : 5 ≤ j) : s_after E qk hm kind number aim p κ j = κ j := by
  unfold s_after
  split
  · rw [if_neg (by omega)]
  · rw [if_neg (by omega), if_neg (by omega), if_neg (by omega), if_neg (by omega), if_neg (by omega)]
theorem rGet_hi {o j : Nat} {M : Nat → Nat → Int32} (hj : 5 ≤ j) : rGet o M j = 0 := by
  unfold rGet
  rw [if_neg (by omega), if_neg (by omega), if_neg (by omega)]
theorem rGet_put {o : Nat} {M : Nat → Nat → Int32} {κ : Crt} (h : ∀ j, 5 ≤ j → κ j = 0) : rGet o (rPut o M κ) = κ := by
  funext j
  unfold rGet rPut
  split
  · rw [if_pos ⟨rfl, by assumption⟩]
  · split
    · rw [if_neg (by omega), if_pos ⟨rfl, by omega⟩, show 2 + (j - 2) = j by omega]
    · split
      · rename_i h4
        rw [if_neg (by omega), if_neg (by omega), if_pos ⟨rfl, rfl⟩, h4]
      · exact (h j (by omega)).symm
theorem rGet_cong {o : Nat} {M M' : Nat → Nat → Int32} (h0 : ∀ j, j < 2 → M' (o + 4) j = M (o + 4) j) (h1 : ∀ j, j < 2 → M' (o + 5) j = M (o + 5) j) (h2 : M' o 11 = M o 11) : rGet o M' = rGet o M := by
  funext j
  unfold rGet
  split
  · exact h0 j (by assumption)
  · split
    · exact h1 _ (by omega)
    · rw [h2]
theorem strk_off {o : Nat} {M M1 : Nat → Nat → Int32} {κ : Crt} {ct : Int32} (h : M1 = up2 (rPut o M κ) o 31 ct) : ∀ b k, ¬ (b = o + 4 ∧ k < 2) → ¬ (b = o + 5 ∧ k < 2) → ¬ (b = o ∧ (k = 11 ∨ k = 31)) → M1 b k = M b k := by
  intro b k h1 h2 h3
  rw [h, up2_n (by omega)]
  unfold rPut
  rw [if_neg (by omega), if_neg (by omega), if_neg (by omega)]
/-! over which cells one goes -/
def stp (x t : Nat) : Nat := if x < t then x + 1 else if t < x then x - 1 else x
def ovk (x y tx ty : Nat) : Nat := max (max (x - tx) (tx - x)) (max (y - ty) (ty - y))
def ov (tx ty : Nat) (c : Int32) : Nat → Nat → Nat → Bool
  | 0, _, _ => false
  | k + 1, x, y => decide (nI (5 * stp y ty + stp x tx) = c) || ov tx ty c k (stp x tx) (stp y ty)
def s_over (f t : Nat) (c : Int32) : Prop := ov (t % 5) (t / 5) c (ovk (f % 5) (f / 5) (t % 5) (t / 5)) (f % 5) (f / 5) = true
theorem stp_c (x t : Nat) : (stp x t = x + 1 ∧ x < t) ∨ (stp x t = x ∧ x = t) ∨ (stp x t = x - 1 ∧ t < x) := by
  unfold stp
  split
  · exact Or.inl ⟨rfl, by assumption⟩
  · split
    · exact Or.inr (Or.inr ⟨rfl, by assumption⟩)
    · exact Or.inr (Or.inl ⟨rfl, by omega⟩)
theorem ovk_step {x y tx ty k : Nat} (h : ovk x y tx ty = k + 1) : ovk (stp x tx) (stp y ty) tx ty = k := by
  have hx := stp_c x tx
  have hy := stp_c y ty
  unfold ovk at *
  omega
theorem stp_lt {x t m : Nat} (hx : x < m) (ht : t < m) : stp x t < m := by
  unfold stp
  split
  · omega
  · split <;> omega
/-! the numbers of a rally: the rule, quick, home; the strokes' kinds, numbers, aims; the strokes' row; the court at first -/
section SR
variable (E : RuleF) (qk hm kd nb am : Nat → Int32) (κ : Crt)
def sr_st : Nat → Crt
  | 0 => κ
  | j + 1 => s_after E qk hm (kd j) (nb j) (am j) (j % 2) (sr_st j)
abbrev sr_w (j : Nat) : Prop := s_win E qk (kd j) (nb j) (am j) (j % 2) (sr_st E qk hm kd nb am κ j)
def sr_to (j : Nat) : Int32 := s_to (kd j) (am j) (j % 2) (sr_st E qk hm kd nb am κ j)
def sr_slip (j : Nat) : Int32 := s_slips E (sr_st E qk hm kd nb am κ j 4) (sr_st E qk hm kd nb am κ j (2 + j % 2)) (qk (j % 2)) (nb j) (sr_st E qk hm kd nb am κ j (j % 2)) (sr_to E qk hm kd nb am κ j)
def sr_lk : Nat → Int64
  | 0 => 1000000000
  | j + 1 => sr_lk j * (100 - sr_slip E qk hm kd nb am κ j).toInt64 / 100
/-- struck and whether the last one wins, of k strokes yet from the j-th on -/
def sr_fin : Nat → Nat → Nat × Bool
  | 0, j => (j, false)
  | k + 1, j => if sr_w E qk hm kd nb am κ j then (j + 1, true) else sr_fin k (j + 1)
abbrev i2n (x : Int32) : Nat := x.toNatClampNeg
noncomputable def sr_way : Nat → Int32
  | 0 => -1
  | j + 1 => by
    classical
    exact if ¬ sr_w E qk hm kd nb am κ j ∧ sr_way j = -1 ∧ s_over (i2n (sr_st E qk hm kd nb am κ j (1 - j % 2))) (i2n (sr_to E qk hm kd nb am κ j)) (sr_st E qk hm kd nb am κ j (j % 2)) then nI j else sr_way j
def sr_wins (r : Nat × Bool) : Int32 := if r.2 = true then nI ((r.1 - 1) % 2) else -1
end SR
/-- a cell -/
def cv (x : Int32) : Prop := 0 ≤ x.toInt ∧ x.toInt ≤ 24
theorem cv_nI {x : Int32} (h : cv x) : ∃ c, c < 25 ∧ x = nI c := by
  refine ⟨x.toInt.toNat, by unfold cv at h; omega, ?_⟩
  rw [i_eq, nI_toInt (by unfold cv at h; omega)]
  unfold cv at h
  omega
theorem cv_of {c : Nat} (h : c < 25) : cv (nI c) := by
  unfold cv
  rw [nI_toInt (by omega)]
  omega
theorem cv_across : ∀ c, c < 25 → cv (s_across (nI c)) := by
  have h : ∀ c, c < 25 → 0 ≤ (s_across (nI c)).toInt ∧ (s_across (nI c)).toInt ≤ 24 := by decide +kernel
  exact h
theorem cv_lob : ∀ c, c < 25 → cv (if nI c < 20 then nI c + 5 else nI c) := by
  have h : ∀ c, c < 25 → 0 ≤ (if nI c < 20 then nI c + 5 else nI c).toInt ∧ (if nI c < 20 then nI c + 5 else nI c).toInt ≤ 24 := by decide +kernel
  exact h
theorem cv_comes {kind aim fr : Int32} (h : cv aim) : cv (s_comes kind aim fr) := by
  obtain ⟨c, hc, rfl⟩ := cv_nI h
  unfold s_comes
  split
  · exact cv_lob c hc
  · split
    · exact cv_across c hc
    · exact cv_of hc
theorem stp1 {X T : Nat} (hx : X < 100) (ht : T < 100) (c : ¬ nI T ≤ nI X) : nI X + 1 = nI (stp X T) := by
  rw [nI_leI (by omega) (by omega)] at c
  unfold stp
  rw [if_pos (by omega)]
  exact nI_1 X
theorem stp2 {X T : Nat} (hx : X < 100) (ht : T < 100) (c : ¬ nI X ≤ nI T) : nI X + (-1) = nI (stp X T) := by
  rw [nI_leI (by omega) (by omega)] at c
  unfold stp
  rw [if_neg (by omega), if_pos (by omega)]
  obtain ⟨z, rfl⟩ : ∃ z, X = z + 1 := ⟨X - 1, by omega⟩
  exact pk_m1 z
theorem stp3 {X T : Nat} (hx : X < 100) (ht : T < 100) (c : nI T ≤ nI X) (c2 : nI X ≤ nI T) : nI X + 0 = nI (stp X T) := by
  rw [nI_leI (by omega) (by omega)] at c c2
  unfold stp
  rw [if_neg (by omega), if_neg (by omega)]
  exact Int32.add_zero _
theorem nI_inj {a b : Nat} (ha : a < 2 ^ 31) (hb : b < 2 ^ 31) (h : nI a = nI b) : a = b := (nI_eq ha hb).mp h
/-- what a laying aside leaves -/
def LAID (o a : Nat) (M M' : Nat → Nat → Int32) : Prop := (∀ j, j < 2 → M' (o + 11) (a + j) = M (o + 4) j) ∧ (∀ j, j < 2 → M' (o + 11) (a + 2 + j) = M (o + 5) j) ∧ M' (o + 11) (a + 4) = M o 11 ∧ M' o 33 = nI (a + 5) ∧ ∀ b k, ¬ (b = o + 11 ∧ a ≤ k) → ¬ (b = o ∧ k = 33) → M' b k = M b k
/-- what a taking back leaves -/
def TOOK (o a : Nat) (M M' : Nat → Nat → Int32) : Prop := (∀ j, j < 2 → M' (o + 4) j = M (o + 11) (a + j)) ∧ (∀ j, j < 2 → M' (o + 5) j = M (o + 11) (a + 2 + j)) ∧ M' o 11 = M (o + 11) (a + 4) ∧ M' o 33 = nI a ∧ ∀ b k, ¬ (b = o + 4 ∧ k < 2) → ¬ (b = o + 5 ∧ k < 2) → ¬ (b = o ∧ (k = 11 ∨ k = 33)) → M' b k = M b k
theorem lt2 {p : Nat → Prop} (h0 : p 0) (h1 : p 1) : ∀ j, j < 2 → p j := by
  intro j hj
  match j, hj with
  | 0, _ => exact h0
  | 1, _ => exact h1
theorem ov_s {tx ty k x y : Nat} {c : Int32} : ov tx ty c (k + 1) x y = true ↔ (nI (5 * stp y ty + stp x tx) = c ∨ ov tx ty c k (stp x tx) (stp y ty) = true) := by
  rw [show ov tx ty c (k + 1) x y = (decide (nI (5 * stp y ty + stp x tx) = c) || ov tx ty c k (stp x tx) (stp y ty)) from rfl]
  simp
theorem ovA {a : Int32} {p q r : Prop} (h : a = 0 ∨ a = 1) (c : ¬ a = 0) : ((1 : Int32) = 1 ∨ r) ↔ (a = 1 ∨ (p ∨ q)) := ⟨fun _ => Or.inl (h.resolve_left c), fun _ => Or.inl rfl⟩
theorem ovB {a : Int32} {p q r : Prop} (c : p) : ((1 : Int32) = 1 ∨ r) ↔ (a = 1 ∨ (p ∨ q)) := ⟨fun _ => Or.inr (Or.inl c), fun _ => Or.inl rfl⟩
theorem ovC {a : Int32} {p q : Prop} (h : a = 0) (c : ¬ p) : ((0 : Int32) = 1 ∨ q) ↔ (a = 1 ∨ (p ∨ q)) := by
  constructor
  · intro z
    rcases z with z | z
    · exact absurd z (by decide)
    · exact Or.inr (Or.inr z)
  · intro z
    rcases z with z | z | z
    · rw [h] at z; exact absurd z (by decide)
    · exact absurd z c
    · exact Or.inr z
/-- the rows of a sheet's strokes -/
def rq (N : Nat) (f : Nat → Int32) (row : Nat → Int32) : Nat → Int32 := fun j => if j < N then f (i2n (row j)) else 0
theorem rq_e {N j q : Nat} {f row : Nat → Int32} (h : j < N) (hq : row j = nI q) (hs : q < 1000) : rq N f row j = f q := by
  unfold rq i2n
  rw [if_pos h, hq, nI_clamp (by omega)]
abbrev rrow (o s : Nat) (M : Nat → Nat → Int32) : Nat → Int32 := fun j => M (o + 18) (40 * s + j)
/-- a sheet that is a rally: s, of N strokes -/
def RLY (o : Nat) (M : Nat → Nat → Int32) (s N : Nat) : Prop := s < 4 ∧ N ≤ 40 ∧ M (o + 17) s = nI N ∧ ∀ j, j < N → ∃ q, q < 6 ∧ M (o + 18) (40 * s + j) = nI q
/-- the cells are cells -/
def CVR (o : Nat) (M : Nat → Nat → Int32) : Prop := (∀ p, p < 2 → cv (M (o + 4) p)) ∧ (∀ p, p < 2 → M (o + 7) p = -1 ∨ cv (M (o + 7) p)) ∧ ∀ q, q < 6 → cv (M (o + 10) q)
section RA
variable (o : Nat) (M : Nat → Nat → Int32) (E : RuleF) (s N : Nat)
abbrev aK : Nat → Int32 := rq N (M (o + 8)) (rrow o s M)
abbrev aN : Nat → Int32 := rq N (M (o + 9)) (rrow o s M)
abbrev aA : Nat → Int32 := rq N (M (o + 10)) (rrow o s M)
abbrev aQ : Nat → Int32 := t2 (M (o + 6))
abbrev aH : Nat → Int32 := t2 (M (o + 7))
abbrev a_st (j : Nat) : Crt := sr_st E (aQ o M) (aH o M) (aK o M s N) (aN o M s N) (aA o M s N) (rGet o M) j
abbrev a_w (j : Nat) : Prop := sr_w E (aQ o M) (aH o M) (aK o M s N) (aN o M s N) (aA o M s N) (rGet o M) j
abbrev a_to (j : Nat) : Int32 := sr_to E (aQ o M) (aH o M) (aK o M s N) (aN o M s N) (aA o M s N) (rGet o M) j
abbrev a_slip (j : Nat) : Int32 := sr_slip E (aQ o M) (aH o M) (aK o M s N) (aN o M s N) (aA o M s N) (rGet o M) j
abbrev a_lk (j : Nat) : Int64 := sr_lk E (aQ o M) (aH o M) (aK o M s N) (aN o M s N) (aA o M s N) (rGet o M) j
noncomputable abbrev a_way (j : Nat) : Int32 := sr_way E (aQ o M) (aH o M) (aK o M s N) (aN o M s N) (aA o M s N) (rGet o M) j
abbrev a_fin (k j : Nat) : Nat × Bool := sr_fin E (aQ o M) (aH o M) (aK o M s N) (aN o M s N) (aA o M s N) (rGet o M) k j
/-- what a rally may change -/
def RD (b k : Nat) : Prop := (b = o + 4 ∧ k < 2) ∨ (b = o + 5 ∧ k < 2) ∨ (b = o + 12 ∧ k < 40) ∨ (b = o ∧ (k = 11 ∨ k = 31 ∨ k = 34 ∨ k = 35 ∨ k = 37))
def INVR (M' : Nat → Nat → Int32) (Lo L' : Nat → Nat → Int64) (j : Nat) (w : Int32) : Prop :=
  (∀ b k, ¬ RD o b k → M' b k = M b k) ∧ (∀ b k, ¬ (b = o ∧ k = 36) → L' b k = Lo b k) ∧ rGet o M' = a_st o M E s N j ∧ M' o 34 = w ∧ M' o 35 = nI j ∧ L' o 36 = a_lk o M E s N j ∧ M' o 37 = a_way o M E s N j ∧ ∀ i, i < j → M' (o + 12) i = a_to o M E s N i
end RA
