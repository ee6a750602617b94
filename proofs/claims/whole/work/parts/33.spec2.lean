/-! ===== rallies as functions ===== -/
def t2 (f : Nat → Int32) : Nat → Int32 := fun p => if p = 0 then f 0 else f 1
theorem t2_e {f : Nat → Int32} {p : Nat} (hp : p < 2) : t2 f p = f p := by
  unfold t2
  split
  · rename_i h; rw [h]
  · rw [show p = 1 by omega]
theorem sw_t2 {E : RuleF} {qk : Nat → Int32} {kind number aim : Int32} {p : Nat} {κ : Crt} (hp : p < 2) : s_win E (t2 qk) kind number aim p κ ↔ s_win E qk kind number aim p κ := by
  unfold s_win s_t
  rw [t2_e hp, t2_e (p := 1 - p) (by omega)]
theorem sh_t2 {E : RuleF} {qk hm : Nat → Int32} {kind number aim : Int32} {p : Nat} {κ : Crt} (hp : p < 2) : s_home E (t2 qk) (t2 hm) kind number aim p κ ↔ s_home E qk hm kind number aim p κ := by
  unfold s_home s_t
  rw [t2_e hp, t2_e hp]
theorem sa_t2 {E : RuleF} {qk hm : Nat → Int32} {kind number aim : Int32} {p : Nat} {κ : Crt} (hp : p < 2) : s_after E (t2 qk) (t2 hm) kind number aim p κ = s_after E qk hm kind number aim p κ := by
  funext j
  unfold s_after
  by_cases h : s_win E qk kind number aim p κ
  · rw [if_pos h, if_pos (sw_t2 hp |>.mpr h)]
  · rw [if_neg h, if_neg (fun z => h (sw_t2 hp |>.mp z))]
    by_cases g : s_home E qk hm kind number aim p κ
    · simp only [if_pos g, if_pos (sh_t2 hp |>.mpr g), t2_e hp]
    · simp only [if_neg g, if_neg (fun z => g (sh_t2 hp |>.mp z))]
theorem sa_hi {E : RuleF} {qk hm : Nat → Int32} {kind number aim : Int32} {p : Nat} {κ : Crt} (hp : p < 2) {j : Nat} (hj : 5 ≤ j) : s_after E qk hm kind number aim p κ j = κ j := by
  unfold s_after
  split
  · rw [if_neg (by omega)]
  · rw [if_neg (by omega), if_neg (by omega), if_neg (by omega), if_neg (by omega), if_neg (by omega)]
theorem rGet_hi {o j : Nat} {M : Nat → Nat → Int32} (hj : 5 ≤ j) : rGet o M j = 0 := by
  unfold rGet
  rw [if_neg (by omega), if_neg (by omega), if_neg (by omega)]
theorem rGet_put {o : Nat} {M : Nat → Nat → Int32} {κ : Crt} (h : ∀ j, 5 ≤ j → κ j = 0) : rGet o (rPut o M κ) = κ := by
  funext j
  unfold rGet rPut
  split
  · rw [if_pos ⟨rfl, by assumption⟩]
  · split
    · rw [if_neg (by omega), if_pos ⟨rfl, by omega⟩, show 2 + (j - 2) = j by omega]
    · split
      · rename_i h4
        rw [if_neg (by omega), if_neg (by omega), if_pos ⟨rfl, rfl⟩, h4]
      · exact (h j (by omega)).symm
theorem rGet_cong {o : Nat} {M M' : Nat → Nat → Int32} (h0 : ∀ j, j < 2 → M' (o + 4) j = M (o + 4) j) (h1 : ∀ j, j < 2 → M' (o + 5) j = M (o + 5) j) (h2 : M' o 11 = M o 11) : rGet o M' = rGet o M := by
  funext j
  unfold rGet
  split
  · exact h0 j (by assumption)
  · split
    · exact h1 _ (by omega)
    · rw [h2]
theorem strk_off {o : Nat} {M M1 : Nat → Nat → Int32} {κ : Crt} {ct : Int32} (h : M1 = up2 (rPut o M κ) o 31 ct) : ∀ b k, ¬ (b = o + 4 ∨ b = o + 5 ∨ (b = o ∧ (k = 11 ∨ k = 31))) → M1 b k = M b k := by
  intro b k hn
  rw [h, up2_n (by omega)]
  unfold rPut
  rw [if_neg (by omega), if_neg (by omega), if_neg (by omega)]
/-! over which cells one goes -/
def stp (x t : Nat) : Nat := if x < t then x + 1 else if t < x then x - 1 else x
def ovk (x y tx ty : Nat) : Nat := max (max (x - tx) (tx - x)) (max (y - ty) (ty - y))
def ov (tx ty : Nat) (c : Int32) : Nat → Nat → Nat → Bool
  | 0, _, _ => false
  | k + 1, x, y => decide (nI (5 * stp y ty + stp x tx) = c) || ov tx ty c k (stp x tx) (stp y ty)
def s_over (f t : Nat) (c : Int32) : Prop := ov (t % 5) (t / 5) c (ovk (f % 5) (f / 5) (t % 5) (t / 5)) (f % 5) (f / 5) = true
theorem stp_c (x t : Nat) : (stp x t = x + 1 ∧ x < t) ∨ (stp x t = x ∧ x = t) ∨ (stp x t = x - 1 ∧ t < x) := by
  unfold stp
  split
  · exact Or.inl ⟨rfl, by assumption⟩
  · split
    · exact Or.inr (Or.inr ⟨rfl, by assumption⟩)
    · exact Or.inr (Or.inl ⟨rfl, by omega⟩)
theorem ovk_step {x y tx ty k : Nat} (h : ovk x y tx ty = k + 1) : ovk (stp x tx) (stp y ty) tx ty = k := by
  have hx := stp_c x tx
  have hy := stp_c y ty
  unfold ovk at *
  omega
theorem stp_lt {x t m : Nat} (hx : x < m) (ht : t < m) : stp x t < m := by
  unfold stp
  split
  · omega
  · split <;> omega
/-! the numbers of a rally: the rule, quick, home; the strokes' kinds, numbers, aims; the strokes' row; the court at first -/
section SR
variable (E : RuleF) (qk hm kd nb am : Nat → Int32) (it : Nat → Nat) (κ : Crt)
def sr_st : Nat → Crt
  | 0 => κ
  | j + 1 => s_after E qk hm (kd (it j)) (nb (it j)) (am (it j)) (j % 2) (sr_st j)
abbrev sr_w (j : Nat) : Prop := s_win E qk (kd (it j)) (nb (it j)) (am (it j)) (j % 2) (sr_st E qk hm kd nb am it κ j)
def sr_to (j : Nat) : Int32 := s_to (kd (it j)) (am (it j)) (j % 2) (sr_st E qk hm kd nb am it κ j)
def sr_slip (j : Nat) : Int32 := s_slips E (sr_st E qk hm kd nb am it κ j 4) (sr_st E qk hm kd nb am it κ j (2 + j % 2)) (qk (j % 2)) (nb (it j)) (sr_st E qk hm kd nb am it κ j (j % 2)) (sr_to E qk hm kd nb am it κ j)
def sr_lk : Nat → Int64
  | 0 => 1000000000
  | j + 1 => sr_lk j * (100 - sr_slip E qk hm kd nb am it κ j).toInt64 / 100
/-- struck and whether the last one wins, of k strokes yet from the j-th on -/
def sr_fin : Nat → Nat → Nat × Bool
  | 0, j => (j, false)
  | k + 1, j => if sr_w E qk hm kd nb am it κ j then (j + 1, true) else sr_fin k (j + 1)
abbrev i2n (x : Int32) : Nat := x.toNatClampNeg
noncomputable def sr_way : Nat → Int32
  | 0 => -1
  | j + 1 => by
    classical
    exact if ¬ sr_w E qk hm kd nb am it κ j ∧ sr_way j = -1 ∧ s_over (i2n (sr_st E qk hm kd nb am it κ j (1 - j % 2))) (i2n (sr_to E qk hm kd nb am it κ j)) (sr_st E qk hm kd nb am it κ j (j % 2)) then nI j else sr_way j
def sr_wins (r : Nat × Bool) : Int32 := if r.2 = true then nI ((r.1 - 1) % 2) else -1
end SR
/-- a cell -/
def cv (x : Int32) : Prop := 0 ≤ x.toInt ∧ x.toInt ≤ 24
theorem cv_nI {x : Int32} (h : cv x) : ∃ c, c < 25 ∧ x = nI c := by
  refine ⟨x.toInt.toNat, by unfold cv at h; omega, ?_⟩
  rw [i_eq, nI_toInt (by unfold cv at h; omega)]
  unfold cv at h
  omega
theorem cv_of {c : Nat} (h : c < 25) : cv (nI c) := by
  unfold cv
  rw [nI_toInt (by omega)]
  omega
theorem cv_across : ∀ c, c < 25 → cv (s_across (nI c)) := by
  have h : ∀ c, c < 25 → 0 ≤ (s_across (nI c)).toInt ∧ (s_across (nI c)).toInt ≤ 24 := by decide +kernel
  exact h
theorem cv_lob : ∀ c, c < 25 → cv (if nI c < 20 then nI c + 5 else nI c) := by
  have h : ∀ c, c < 25 → 0 ≤ (if nI c < 20 then nI c + 5 else nI c).toInt ∧ (if nI c < 20 then nI c + 5 else nI c).toInt ≤ 24 := by decide +kernel
  exact h
theorem cv_comes {kind aim fr : Int32} (h : cv aim) : cv (s_comes kind aim fr) := by
  obtain ⟨c, hc, rfl⟩ := cv_nI h
  unfold s_comes
  split
  · exact cv_lob c hc
  · split
    · exact cv_across c hc
    · exact cv_of hc
