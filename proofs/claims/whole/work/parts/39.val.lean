/-! ===== values of strokes ===== -/
def zPut (A : Abs) (κ : Crt) : Abs := (fun b k => if b = 0 ∧ k < 2 then κ k else if b = 1 ∧ k < 2 then κ (2 + k) else if b = 4 ∧ k = 0 then κ 4 else A.1 b k, A.2)
theorem zPut_o {A : Abs} {κ : Crt} {b k : Nat} (h : b ≠ 0 ∧ b ≠ 1 ∧ b ≠ 4) : (zPut A κ).1 b k = A.1 b k := by
  show (if b = 0 ∧ k < 2 then κ k else if b = 1 ∧ k < 2 then κ (2 + k) else if b = 4 ∧ k = 0 then κ 4 else A.1 b k) = _
  rw [if_neg (by omega), if_neg (by omega), if_neg (by omega)]
theorem zPut_a {A : Abs} {κ : Crt} {b : Nat} (h : b ≠ 0 ∧ b ≠ 1 ∧ b ≠ 4) : (zPut A κ).1 b = A.1 b := funext fun _ => zPut_o h
theorem zPut_0 {A : Abs} {κ : Crt} {p : Nat} (h : p < 2) : (zPut A κ).1 0 p = κ p := if_pos ⟨rfl, h⟩
theorem zPut_1 {A : Abs} {κ : Crt} {p : Nat} (h : p < 2) : (zPut A κ).1 1 p = κ (2 + p) := by
  show (if 1 = 0 ∧ p < 2 then κ p else if 1 = 1 ∧ p < 2 then κ (2 + p) else if 1 = 4 ∧ p = 0 then κ 4 else A.1 1 p) = _
  rw [if_neg (by omega), if_pos ⟨rfl, h⟩]
theorem zPut_4 {A : Abs} {κ : Crt} : (zPut A κ).1 4 0 = κ 4 := rfl
theorem zC_put {A : Abs} {κ : Crt} (h : ∀ j, 5 ≤ j → κ j = 0) : zC (zPut A κ) = κ := by
  funext j
  unfold zC
  split
  · exact zPut_0 (by assumption)
  · split
    · rw [zPut_1 (by omega), show 2 + (j - 2) = j by omega]
    · split
      · rename_i h4
        rw [h4]; rfl
      · exact (h j (by omega)).symm
theorem zC_hi {A : Abs} {j : Nat} (h : 5 ≤ j) : zC A j = 0 := by
  unfold zC
  rw [if_neg (by omega), if_neg (by omega), if_neg (by omega)]
abbrev zw (A : Abs) (q p : Nat) : Prop := s_win (zE A) (zQ A) (A.1 5 q) (A.1 6 q) (A.1 7 q) p (zC A)
abbrev za (A : Abs) (q p : Nat) : Crt := s_after (zE A) (zQ A) (zH A) (A.1 5 q) (A.1 6 q) (A.1 7 q) p (zC A)
abbrev zto (A : Abs) (q p : Nat) : Int32 := s_to (A.1 5 q) (A.1 7 q) p (zC A)
abbrev zcnt (A : Abs) : Nat := i2n (A.1 8 0)
/-- the first best of the values f k, f (k + 1) .., d of them, till 1 is reached -/
def zbest (f : Nat → Int32) : Nat → Nat → Int32 → Int32 → Int32 × Int32
  | 0, _, most, found => (most, found)
  | d + 1, k, most, found => if most < 1 then (if most < f k then zbest f d (k + 1) (f k) (nI k) else zbest f d (k + 1) most found) else (most, found)
/-- VALUE and BEST for player p, n strokes being left -/
def zval : Nat → Abs → Nat → Int32 × Int32
  | 0, _, _ => (0, -1)
  | n + 1, A, p => if A.1 8 0 = 0 then (0, -1) else zbest (fun k => if zw A k p then 1 else -(zval n (zPut A (za A k p)) (1 - p)).1) (zcnt A) 0 (-2) (-1)
def TDa (o a b k : Nat) : Prop := (b = o + 11 ∧ a ≤ k) ∨ (b = o ∧ (k = 31 ∨ k = 39 ∨ k = 40 ∨ k = 41))
theorem TDa.td {o a b k : Nat} (h : TDa o a b k) : TD o b k := by unfold TDa at h; unfold TD; omega
theorem rng_put {A : Abs} {κ : Crt} (hg : RNG A) (h0 : cv (κ 0)) (h1 : cv (κ 1)) : RNG (zPut A κ) := by
  obtain ⟨g1, g2, g3, g4, g5, g6⟩ := hg
  refine ⟨?_, g2, g3, g4, fun s hs => ?_, g6⟩
  · exact lt2 (by rw [zPut_0 (by decide)]; exact h0) (by rw [zPut_0 (by decide)]; exact h1)
  · rw [zPut_o (by omega), zPut_o (by omega)]; exact g5 s hs
theorem rng_sa {A : Abs} {q p : Nat} (hg : RNG A) (hp : p < 2) (hq : q < 6) : RNG (zPut A (za A q p)) := by
  have hc : ∀ i, i < 2 → cv (zC A i) := fun i hi => by unfold zC; rw [if_pos hi]; exact hg.1 i hi
  obtain ⟨a, b⟩ := sa_cv (E := zE A) (qk := zQ A) (hm := zH A) (kind := A.1 5 q) (number := A.1 6 q) (aim := A.1 7 q) hp (hc 0 (by decide)) (hc 1 (by decide)) (by rw [show zH A p = A.1 3 p from t2_e hp]; exact hg.2.1 p hp) (hg.2.2.1 q hq)
  exact rng_put hg a b
section VA
variable {o a : Nat} {M Ma Mb Mc Md : Nat → Nat → Int32} {A : Abs}
theorem laid_abs (h : rABSg o a M A) (hl : LAID o a M Ma) : rABSg o (a + 5) Ma A := by
  have ka : ∀ t, 0 < t → t ≠ 11 → Ma (o + t) = M (o + t) := fun t h0 h1 => laid_k hl h0 h1
  have ko : ∀ k, k ≠ 33 → Ma o k = M o k := fun k h => hl.2.2.2.2 _ _ (by omega) (by omega)
  have h33 := hl.2.2.2.1
  unfold rABSg at *
  rw [ka 1 (by decide) (by decide), ka 2 (by decide) (by decide), ka 3 (by decide) (by decide), ka 4 (by decide) (by decide), ka 5 (by decide) (by decide), ka 6 (by decide) (by decide), ka 7 (by decide) (by decide), ka 8 (by decide) (by decide), ka 9 (by decide) (by decide), ka 10 (by decide) (by decide), ka 13 (by decide) (by decide), ka 14 (by decide) (by decide), ka 15 (by decide) (by decide), ka 16 (by decide) (by decide), ka 17 (by decide) (by decide), ka 18 (by decide) (by decide), ko 11 (by decide), ko 15 (by decide), ko 4 (by decide), ko 3 (by decide), ko 6 (by decide), ko 44 (by decide), ko 45 (by decide), ko 46 (by decide)]
  obtain ⟨h1, h2, h3, h4, h5, h6, h7, h8, h9, h10, h11, h12, h13, h14, h15, h16, h17, h18, h19, h20, h21, -⟩ := h
  exact ⟨h1, h2, h3, h4, h5, h6, h7, h8, h9, h10, h11, h12, h13, h14, h15, h16, h17, h18, h19, h20, h21, h33⟩
theorem rput_abs {κ : Crt} {ct : Int32} (h : rABSg o a Ma A) (h2 : Mb = up2 (rPut o Ma κ) o 31 ct) : rABSg o a Mb (zPut A κ) := by
  have off := strk_off h2
  have ka : ∀ t, 0 < t → t ≠ 4 → t ≠ 5 → Mb (o + t) = Ma (o + t) := fun t h0 h1 h3 => funext fun k => off _ _ (by omega) (by omega) (by omega)
  have ko : ∀ k, k ≠ 11 → k ≠ 31 → Mb o k = Ma o k := fun k h h' => off _ _ (by omega) (by omega) (by omega)
  have z4 : ∀ p, p < 2 → Mb (o + 4) p = κ p := fun p hp => by rw [h2, up2_n (by omega)]; exact if_pos ⟨rfl, hp⟩
  have z5 : ∀ p, p < 2 → Mb (o + 5) p = κ (2 + p) := fun p hp => by rw [h2, up2_n (by omega)]; exact (if_neg (by omega)).trans (if_pos ⟨rfl, hp⟩)
  have z11 : Mb o 11 = κ 4 := by rw [h2, up2_n (by omega)]; exact (if_neg (by omega)).trans ((if_neg (by omega)).trans (if_pos ⟨rfl, rfl⟩))
  obtain ⟨h1, h2', h3, h4, h5, h6, h7, h8, h9, h10, h11, h12, h13, h14, h15, h16, h17, h18, h19, h20, h21, h22⟩ := h
  unfold rABSg
  rw [ka 1 (by decide) (by decide) (by decide), ka 2 (by decide) (by decide) (by decide), ka 3 (by decide) (by decide) (by decide), ka 6 (by decide) (by decide) (by decide), ka 7 (by decide) (by decide) (by decide), ka 8 (by decide) (by decide) (by decide), ka 9 (by decide) (by decide) (by decide), ka 10 (by decide) (by decide) (by decide), ka 13 (by decide) (by decide) (by decide), ka 14 (by decide) (by decide) (by decide), ka 15 (by decide) (by decide) (by decide), ka 16 (by decide) (by decide) (by decide), ka 17 (by decide) (by decide) (by decide), ka 18 (by decide) (by decide) (by decide), ko 15 (by decide) (by decide), ko 4 (by decide) (by decide), ko 3 (by decide) (by decide), ko 6 (by decide) (by decide), ko 44 (by decide) (by decide), ko 45 (by decide) (by decide), ko 46 (by decide) (by decide), ko 33 (by decide) (by decide)]
  exact ⟨fun p hp => by rw [z4 p hp, zPut_0 hp], fun p hp => by rw [z5 p hp, zPut_1 hp], h3, h4, z11, h6, h7, h8, h9, h10, h11, h12, h13, h14, h15, h16, h17, h18, h19, fun s j hs hj => by rw [zPut_o (by omega)]; exact h20 s j hs hj, h21, h22⟩
/-- a stroke in thought -/
theorem strk_A {q p : Nat} (h : rABSg o a Ma A) (hp : p < 2) (hq : q < 6) : (s_win (zE A) (Ma (o + 6)) (Ma (o + 8) q) (Ma (o + 9) q) (Ma (o + 10) q) p (rGet o Ma) ↔ zw A q p) ∧ s_after (zE A) (Ma (o + 6)) (Ma (o + 7)) (Ma (o + 8) q) (Ma (o + 9) q) (Ma (o + 10) q) p (rGet o Ma) = za A q p ∧ s_to (Ma (o + 8) q) (Ma (o + 10) q) p (rGet o Ma) = zto A q p := by
  have e1 := h.zq
  have e2 := h.zh
  have e3 := h.zc
  refine ⟨?_, ?_, ?_⟩
  · rw [← sw_t2 hp, show t2 (Ma (o + 6)) = zQ A from e1, e3, h.c8 hq, h.c9 hq, h.c10 hq]
  · rw [← sa_t2 hp, show t2 (Ma (o + 6)) = zQ A from e1, show t2 (Ma (o + 7)) = zH A from e2, e3, h.c8 hq, h.c9 hq, h.c10 hq]
  · rw [e3, h.c8 hq, h.c10 hq]
/-- laid aside, a stroke and what is below it, taken back -/
theorem lst (hl : LAID o a M Ma) (hb : ∀ b k, ¬ (b = o + 4 ∧ k < 2) → ¬ (b = o + 5 ∧ k < 2) → ¬ (b = o ∧ (k = 11 ∨ k = 31)) → Mb b k = Ma b k) (hc : ∀ b k, ¬ TDa o (a + 5) b k → ¬ (b = o + 4 ∧ k < 2) → ¬ (b = o + 5 ∧ k < 2) → ¬ (b = o ∧ (k = 11 ∨ k = 31)) → Mc b k = Mb b k) (ht : TOOK o a Mc Md) (h33 : M o 33 = nI a) : ∀ b k, ¬ TDa o a b k → Md b k = M b k := by
  intro b k hn
  obtain ⟨l1, l2, l3, l4, l5⟩ := hl
  obtain ⟨t1, t2, t3, t4, t5⟩ := ht
  have r11 : ∀ j, j < a + 5 → Mc (o + 11) j = Ma (o + 11) j := fun j hj => (hc _ _ (by unfold TDa; omega) (by omega) (by omega) (by omega)).trans (hb _ _ (by omega) (by omega) (by omega))
  unfold TDa at hn
  by_cases h4 : b = o + 4 ∧ k < 2
  · obtain ⟨rfl, hk⟩ := h4
    rw [t1 k hk, r11 _ (by omega), l1 k hk]
  · by_cases h5 : b = o + 5 ∧ k < 2
    · obtain ⟨rfl, hk⟩ := h5
      rw [t2 k hk, r11 _ (by omega), l2 k hk]
    · by_cases h6 : b = o ∧ k = 11
      · obtain ⟨rfl, rfl⟩ := h6
        rw [t3, r11 _ (by omega), l3]
      · by_cases h7 : b = o ∧ k = 33
        · obtain ⟨rfl, rfl⟩ := h7
          rw [t4, h33]
        · rw [t5 b k h4 h5 (by omega), hc b k (by unfold TDa; omega) h4 h5 (by omega), hb b k h4 h5 (by omega), l5 b k (by omega) h7]
theorem lst33 (hl : LAID o a M Ma) (hb : ∀ b k, ¬ (b = o + 4 ∧ k < 2) → ¬ (b = o + 5 ∧ k < 2) → ¬ (b = o ∧ (k = 11 ∨ k = 31)) → Mb b k = Ma b k) (hc : ∀ b k, ¬ TDa o (a + 5) b k → ¬ (b = o + 4 ∧ k < 2) → ¬ (b = o + 5 ∧ k < 2) → ¬ (b = o ∧ (k = 11 ∨ k = 31)) → Mc b k = Mb b k) : Mc o 33 = nI (a + 5) := (hc _ _ (by unfold TDa; omega) (by omega) (by omega) (by omega)).trans ((hb _ _ (by omega) (by omega) (by omega)).trans hl.2.2.2.1)
end VA
theorem zbest_1 {f : Nat → Int32} {d k : Nat} {most found : Int32} (h : most < 1) (h2 : most < f k) : zbest f (d + 1) k most found = zbest f d (k + 1) (f k) (nI k) := (if_pos h).trans (if_pos h2)
theorem zbest_0 {f : Nat → Int32} {d k : Nat} {most found : Int32} (h : most < 1) (h2 : ¬ most < f k) : zbest f (d + 1) k most found = zbest f d (k + 1) most found := (if_pos h).trans (if_neg h2)
theorem zbest_x {f : Nat → Int32} {d k : Nat} {most found : Int32} (h : ¬ most < 1) : zbest f d k most found = (most, found) := by
  cases d with
  | zero => rfl
  | succ d => exact if_neg h
theorem cnt_e {A : Abs} (hg : RNG A) : ∃ c, c ≤ 6 ∧ A.1 8 0 = nI c ∧ zcnt A = c := by
  obtain ⟨c, hc, e⟩ := hg.2.2.2.1
  exact ⟨c, hc, e, by show i2n _ = c; rw [e]; exact nI_clamp (by omega)⟩
abbrev zf (n : Nat) (A : Abs) (p : Nat) : Nat → Int32 := fun k => if zw A k p then 1 else -(zval n (zPut A (za A k p)) (1 - p)).1
theorem zval_s {n : Nat} {A : Abs} {p : Nat} (h : ¬ A.1 8 0 = 0) : zval (n + 1) A p = zbest (zf n A p) (zcnt A) 0 (-2) (-1) := if_neg h
theorem zval_0 {n : Nat} {A : Abs} {p : Nat} (h : A.1 8 0 = 0) : zval n A p = (0, -1) := by
  cases n with
  | zero => rfl
  | succ n => exact if_pos h
