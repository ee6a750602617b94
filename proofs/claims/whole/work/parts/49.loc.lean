/-! ===== where the state's numbers lie in the reference ===== -/
def LOC (o b k x i : Nat) : Prop :=
  (b < 4 ∧ k < 2 ∧ x = o + 4 + b ∧ i = k) ∨ (b = 4 ∧ k = 0 ∧ x = o ∧ i = 11) ∨ (5 ≤ b ∧ b < 8 ∧ k < 6 ∧ x = o + 3 + b ∧ i = k) ∨ (b = 8 ∧ k = 0 ∧ x = o ∧ i = 15) ∨ (b = 9 ∧ k = 0 ∧ x = o ∧ i = 4) ∨
  (b = 10 ∧ k = 0 ∧ x = o ∧ i = 3) ∨ (b = 12 ∧ k = 0 ∧ x = o ∧ i = 6) ∨ (b = 13 ∧ k < 8 ∧ x = o + 13 ∧ i = k) ∨ (b = 14 ∧ k < 12 ∧ x = o + 14 ∧ i = k) ∨ (b = 15 ∧ k < 3 ∧ x = o ∧ i = 44 + k) ∨
  (16 ≤ b ∧ b < 19 ∧ k < 4 ∧ x + 1 = o + b ∧ i = k) ∨ (20 ≤ b ∧ b < 24 ∧ k < 40 ∧ x = o + 18 ∧ i = 40 * (b - 20) + k)
theorem LC_0 {o : Nat} {p : Nat} (h : p < 2) : LOC o 0 p (o + 4) p := Or.inl (⟨by decide, h, rfl, rfl⟩)
theorem LC_1 {o : Nat} {p : Nat} (h : p < 2) : LOC o 1 p (o + 5) p := Or.inl (⟨by decide, h, rfl, rfl⟩)
theorem LC_2 {o : Nat} {p : Nat} (h : p < 2) : LOC o 2 p (o + 6) p := Or.inl (⟨by decide, h, rfl, rfl⟩)
theorem LC_3 {o : Nat} {p : Nat} (h : p < 2) : LOC o 3 p (o + 7) p := Or.inl (⟨by decide, h, rfl, rfl⟩)
theorem LC_4 {o : Nat}  : LOC o 4 0 o 11 := Or.inr (Or.inl (⟨rfl, rfl, rfl, rfl⟩))
theorem LC_5 {o : Nat} {q : Nat} (h : q < 6) : LOC o 5 q (o + 8) q := Or.inr (Or.inr (Or.inl (⟨by decide, by decide, h, rfl, rfl⟩)))
theorem LC_6 {o : Nat} {q : Nat} (h : q < 6) : LOC o 6 q (o + 9) q := Or.inr (Or.inr (Or.inl (⟨by decide, by decide, h, rfl, rfl⟩)))
theorem LC_7 {o : Nat} {q : Nat} (h : q < 6) : LOC o 7 q (o + 10) q := Or.inr (Or.inr (Or.inl (⟨by decide, by decide, h, rfl, rfl⟩)))
theorem LC_8 {o : Nat}  : LOC o 8 0 o 15 := Or.inr (Or.inr (Or.inr (Or.inl (⟨rfl, rfl, rfl, rfl⟩))))
theorem LC_9 {o : Nat}  : LOC o 9 0 o 4 := Or.inr (Or.inr (Or.inr (Or.inr (Or.inl (⟨rfl, rfl, rfl, rfl⟩)))))
theorem LC_10 {o : Nat}  : LOC o 10 0 o 3 := Or.inr (Or.inr (Or.inr (Or.inr (Or.inr (Or.inl (⟨rfl, rfl, rfl, rfl⟩))))))
theorem LC_12 {o : Nat}  : LOC o 12 0 o 6 := Or.inr (Or.inr (Or.inr (Or.inr (Or.inr (Or.inr (Or.inl (⟨rfl, rfl, rfl, rfl⟩)))))))
theorem LC_13 {o : Nat} {q : Nat} (h : q < 8) : LOC o 13 q (o + 13) q := Or.inr (Or.inr (Or.inr (Or.inr (Or.inr (Or.inr (Or.inr (Or.inl (⟨rfl, h, rfl, rfl⟩))))))))
theorem LC_14 {o : Nat} {q : Nat} (h : q < 12) : LOC o 14 q (o + 14) q := Or.inr (Or.inr (Or.inr (Or.inr (Or.inr (Or.inr (Or.inr (Or.inr (Or.inl (⟨rfl, h, rfl, rfl⟩)))))))))
theorem LC_15_0 {o : Nat}  : LOC o 15 0 o 44 := Or.inr (Or.inr (Or.inr (Or.inr (Or.inr (Or.inr (Or.inr (Or.inr (Or.inr (Or.inl (⟨rfl, by decide, rfl, rfl⟩))))))))))
theorem LC_15_1 {o : Nat}  : LOC o 15 1 o 45 := Or.inr (Or.inr (Or.inr (Or.inr (Or.inr (Or.inr (Or.inr (Or.inr (Or.inr (Or.inl (⟨rfl, by decide, rfl, rfl⟩))))))))))
theorem LC_15_2 {o : Nat}  : LOC o 15 2 o 46 := Or.inr (Or.inr (Or.inr (Or.inr (Or.inr (Or.inr (Or.inr (Or.inr (Or.inr (Or.inl (⟨rfl, by decide, rfl, rfl⟩))))))))))
theorem LC_16 {o : Nat} {q : Nat} (h : q < 4) : LOC o 16 q (o + 15) q := Or.inr (Or.inr (Or.inr (Or.inr (Or.inr (Or.inr (Or.inr (Or.inr (Or.inr (Or.inr (Or.inl (⟨by decide, by decide, h, rfl, rfl⟩)))))))))))
theorem LC_17 {o : Nat} {q : Nat} (h : q < 4) : LOC o 17 q (o + 16) q := Or.inr (Or.inr (Or.inr (Or.inr (Or.inr (Or.inr (Or.inr (Or.inr (Or.inr (Or.inr (Or.inl (⟨by decide, by decide, h, rfl, rfl⟩)))))))))))
theorem LC_18 {o : Nat} {q : Nat} (h : q < 4) : LOC o 18 q (o + 17) q := Or.inr (Or.inr (Or.inr (Or.inr (Or.inr (Or.inr (Or.inr (Or.inr (Or.inr (Or.inr (Or.inl (⟨by decide, by decide, h, rfl, rfl⟩)))))))))))
theorem LC_20 {o : Nat} {s j : Nat} (h : s < 4) (hj : j < 40) : LOC o (20 + s) j (o + 18) (40 * s + j) := Or.inr (Or.inr (Or.inr (Or.inr (Or.inr (Or.inr (Or.inr (Or.inr (Or.inr (Or.inr (Or.inr (⟨by omega, by omega, hj, rfl, by omega⟩)))))))))))
def zUp (A : Abs) (b k : Nat) (v : Int32) : Abs := (up2 A.1 b k v, A.2)
section LC
variable {o a : Nat} {M M' : Nat → Nat → Int32} {A A' : Abs}
theorem rABSg.loc (h : rABSg o a M A) : ∀ b k x i, LOC o b k x i → M x i = A.1 b k := by
  intro b k x i hl
  unfold LOC at hl
  rcases hl with ⟨h1, h2, rfl, rfl⟩ | ⟨rfl, rfl, rfl, rfl⟩ | ⟨h1, h3, h2, rfl, rfl⟩ | ⟨rfl, rfl, rfl, rfl⟩ | ⟨rfl, rfl, rfl, rfl⟩ | ⟨rfl, rfl, rfl, rfl⟩ | ⟨rfl, rfl, rfl, rfl⟩ | ⟨rfl, h2, rfl, rfl⟩ | ⟨rfl, h2, rfl, rfl⟩ | ⟨rfl, h2, rfl, rfl⟩ | ⟨h1, h3, h2, hx, rfl⟩ | ⟨h1, h3, h2, rfl, rfl⟩
  · match b, h1 with
    | 0, _ => exact h.c4 h2
    | 1, _ => exact h.c5 h2
    | 2, _ => exact h.c6 h2
    | 3, _ => exact h.c7 h2
  · exact h.c11
  · obtain ⟨c, rfl⟩ : ∃ c, b = 5 + c := ⟨b - 5, by omega⟩
    have h3' : c < 3 := by omega
    match c, h3' with
    | 0, _ => exact h.c8 h2
    | 1, _ => exact h.c9 h2
    | 2, _ => exact h.c10 h2
  · exact h.cnt
  · exact h.rul
  · exact h.tc
  · exact h.tsz
  · exact h.k13 h2
  · exact h.k14 h2
  · match k, h2 with
    | 0, _ => exact h.k15.1
    | 1, _ => exact h.k15.2.1
    | 2, _ => exact h.k15.2.2
  · obtain ⟨c, rfl⟩ : ∃ c, b = 16 + c := ⟨b - 16, by omega⟩
    obtain rfl : x = o + (15 + c) := by omega
    have h3' : c < 3 := by omega
    match c, h3', hx with
    | 0, _, _ => exact h.th h2
    | 1, _, _ => exact h.so h2
    | 2, _, _ => exact h.sz h2
  · obtain ⟨s, rfl⟩ : ∃ s, b = 20 + s := ⟨b - 20, by omega⟩
    rw [show 20 + s - 20 = s by omega]
    exact h.im (by omega) h2
theorem rABS_mk (hl : ∀ b k x i, LOC o b k x i → M' x i = A'.1 b k) (ht : ∀ i, i < i2n (A'.1 12 0) → M' (o + 3) i = A'.1 11 i)
    (htx : ∀ i, i < i2n (A'.1 10 0) → ∃ m, m ≤ 160 ∧ M' (o + 2) i = nI m ∧ TXT (fun j => M' (o + 1) (160 * i + j)) m (A'.2 i)) (h33 : M' o 33 = nI a) : rABSg o a M' A' := by
  exact ⟨fun p hp => hl _ _ _ _ (LC_0 hp), fun p hp => hl _ _ _ _ (LC_1 hp), fun p hp => hl _ _ _ _ (LC_2 hp), fun p hp => hl _ _ _ _ (LC_3 hp), hl _ _ _ _ LC_4, fun p hp => hl _ _ _ _ (LC_5 hp), fun p hp => hl _ _ _ _ (LC_6 hp), fun p hp => hl _ _ _ _ (LC_7 hp), hl _ _ _ _ LC_8, hl _ _ _ _ LC_9, hl _ _ _ _ LC_10, ht, hl _ _ _ _ LC_12, fun p hp => hl _ _ _ _ (LC_13 hp), fun p hp => hl _ _ _ _ (LC_14 hp), ⟨hl _ _ _ _ LC_15_0, hl _ _ _ _ LC_15_1, hl _ _ _ _ LC_15_2⟩, fun p hp => hl _ _ _ _ (LC_16 hp), fun p hp => hl _ _ _ _ (LC_17 hp), fun p hp => hl _ _ _ _ (LC_18 hp), fun s j hs hj => hl _ _ _ _ (LC_20 hs hj), htx, h33⟩
theorem rABS_chg (hA : rABSg o a M A) (h : ∀ b k x i, LOC o b k x i → M' x i = A'.1 b k ∨ (M' x i = M x i ∧ A'.1 b k = A.1 b k)) (h11 : A'.1 11 = A.1 11) (h12 : A'.1 12 0 = A.1 12 0) (h10 : A'.1 10 0 = A.1 10 0) (h2 : A'.2 = A.2)
    (m1 : M' (o + 1) = M (o + 1)) (m2 : M' (o + 2) = M (o + 2)) (m3 : M' (o + 3) = M (o + 3)) (m33 : M' o 33 = M o 33) : rABSg o a M' A' := by
  refine rABS_mk (fun b k x i hl => ?_) (fun i hi => ?_) (fun i hi => ?_) (m33.trans hA.as)
  · rcases h b k x i hl with e | ⟨e1, e2⟩
    · exact e
    · rw [e1, e2]; exact hA.loc b k x i hl
  · rw [h12] at hi; rw [m3, h11]; exact hA.tap hi
  · rw [h10] at hi; rw [m1, m2, h2]; exact hA.tx hi
theorem up_abs {b0 k0 x0 i0 : Nat} {v : Int32} (hA : rABSg o a M A) (h0 : LOC o b0 k0 x0 i0) (hb : b0 ≠ 10 ∧ b0 ≠ 12) : rABSg o a (up2 M x0 i0 v) (zUp A b0 k0 v) := by
  have hn : x0 ≠ o + 1 ∧ x0 ≠ o + 2 ∧ x0 ≠ o + 3 ∧ ¬ (x0 = o ∧ i0 = 33) ∧ b0 ≠ 11 := by unfold LOC at h0; omega
  refine rABS_chg hA (fun b k x i hl => ?_) (funext fun k => up2_n (by omega)) (up2_n (by omega)) (up2_n (by omega)) rfl (funext fun k => up2_n (by omega)) (funext fun k => up2_n (by omega)) (funext fun k => up2_n (by omega)) (up2_n (by omega))
  by_cases e : b = b0 ∧ k = k0
  · obtain ⟨rfl, rfl⟩ := e
    obtain ⟨rfl, rfl⟩ : x = x0 ∧ i = i0 := by unfold LOC at hl h0; omega
    exact Or.inl ((up2_s ..).trans (up2_s ..).symm)
  · refine Or.inr ⟨up2_n (fun z => e ?_), up2_n e⟩
    unfold LOC at hl h0; omega
end LC
abbrev RO (o b : Nat) : Prop := o ≤ b ∧ b < o + 19
abbrev zI (o n : Nat) (S : Nat → Nat × Nat) (M : Nat → Nat → Int32) (P : Nat → Nat → Option Nat) (r : Int32) (A' : Abs) : Option Value → Mem → Prop := fun v μ => v = some (.int r) ∧ ∃ M' L', μ = (n, S, M', L', P) ∧ rABS o M' A' ∧ ∀ b k, ¬ RO o b → M' b k = M b k
abbrev zL (o n : Nat) (S : Nat → Nat × Nat) (M : Nat → Nat → Int32) (P : Nat → Nat → Option Nat) (r : Int64) (A' : Abs) : Option Value → Mem → Prop := fun v μ => v = some (.long r) ∧ ∃ M' L', μ = (n, S, M', L', P) ∧ rABS o M' A' ∧ ∀ b k, ¬ RO o b → M' b k = M b k
theorem zI_r {o n : Nat} {S : Nat → Nat × Nat} {M M' : Nat → Nat → Int32} {L' : Nat → Nat → Int64} {P : Nat → Nat → Option Nat} {r r' : Int32} {A' : Abs} (e : r' = r) (h : rABS o M' A') (hf : ∀ b k, ¬ RO o b → M' b k = M b k) : zI o n S M P r A' (some (.int r')) (n, S, M', L', P) := ⟨by rw [e], M', L', rfl, h, hf⟩
theorem qI_z {o n : Nat} {S : Nat → Nat × Nat} {M : Nat → Nat → Int32} {P : Nat → Nat → Option Nat} {r : Int32} {A : Abs} (hA : rABS o M A) {v : Option Value} {μ : Mem} (h : qI o n S M P r v μ) : zI o n S M P r A v μ := by
  obtain ⟨h1, M', L', h2, h3⟩ := h
  exact ⟨h1, M', L', h2, hA.keep h3, fun b k hb => h3 b k (fun z => hb (by unfold TD at z; omega))⟩
theorem qL_z {o n : Nat} {S : Nat → Nat × Nat} {M : Nat → Nat → Int32} {P : Nat → Nat → Option Nat} {r : Int64} {A : Abs} (hA : rABS o M A) {v : Option Value} {μ : Mem} (h : qL o n S M P r v μ) : zL o n S M P r A v μ := by
  obtain ⟨h1, M', L', h2, h3⟩ := h
  exact ⟨h1, M', L', h2, hA.keep h3, fun b k hb => h3 b k (fun z => hb (by unfold TD at z; omega))⟩
/-! the plain calls -/
abbrev isSk (A : Abs) (s : Int32) : Prop := 0 ≤ s.toInt ∧ s.toInt ≤ (A.1 8 0 - 1).toInt
theorem sk_of {A : Abs} (hg : RNG A) {s : Int32} (h : isSk A s) : ∃ k, k < 6 ∧ k < zcnt A ∧ s = nI k := by
  obtain ⟨c, hc, e, ez⟩ := cnt_e hg
  obtain ⟨h1, h2⟩ := h
  rw [e, cm1 (by omega)] at h2
  exact ⟨s.toInt.toNat, by omega, by omega, by rw [i_eq, nI_toInt (by omega)]; omega⟩
def s_lo (q : Nat) : Int := if q = 3 then -1 else 0
def s_hi (q : Nat) : Int := if q = 1 then 999 else if q = 2 ∨ q = 4 then 9 else if q = 6 then 99 else 24
/-- the table's row for what is told -/
def s_row (q : Nat) : Nat := if q < 4 then q else if q = 4 then 6 else if q = 5 then 7 else 5
def zokof (A : Abs) (q : Nat) (s : Int32) : Prop := if q < 4 then isPl s else isSk A s
noncomputable def zr_told (A : Abs) (s what : Int32) : Int32 := by
  classical
  exact if (0 ≤ what.toInt ∧ what.toInt ≤ 6) ∧ zokof A (i2n what) s then A.1 (s_row (i2n what)) (i2n s) else -100
noncomputable def zr_set (A : Abs) (what s v : Int32) : Int32 × Abs := by
  classical
  exact if (0 ≤ what.toInt ∧ what.toInt ≤ 6) ∧ (i2n what = 6 ∨ zokof A (i2n what) s) ∧ s_lo (i2n what) ≤ v.toInt ∧ v.toInt ≤ s_hi (i2n what) then
    (if i2n what = 6 then (A.1 4 0, zUp A 4 0 v) else (A.1 (s_row (i2n what)) (i2n s), zUp A (s_row (i2n what)) (i2n s) v)) else (-100, A)
noncomputable def zr_stroke (A : Abs) (kind number aim : Int32) : Int32 × Abs := by
  classical
  exact if ¬ ((0 ≤ kind.toInt ∧ kind.toInt ≤ 5) ∧ (0 ≤ number.toInt ∧ number.toInt ≤ 9) ∧ (0 ≤ aim.toInt ∧ aim.toInt ≤ 24)) then (-2, A) else if zcnt A = 6 then (-4, A) else
    (nI (zcnt A), zUp (zUp (zUp (zUp A 5 (zcnt A) kind) 6 (zcnt A) number) 7 (zcnt A) aim) 8 0 (nI (zcnt A + 1)))
