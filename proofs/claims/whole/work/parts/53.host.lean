/-! ===== play, sheets ===== -/
noncomputable def zr_play (A : Abs) (s : Int32) : Int32 × Abs := by
  classical
  exact if z_rb A s = 0 then (sr_wins (z_fin A (i2n s)), zPut A (z_st A (i2n s) (z_fin A (i2n s)).1)) else (z_rb A s, A)
def s_narrow (so v : Int32) : Int32 := if so = 0 then v.toInt8.toInt32 else if so = 1 then v.toInt16.toInt32 else v
noncomputable def zr_cell (A : Abs) (s i v : Int32) : Int32 × Abs := by
  classical
  exact if ¬ isSh s then (-2, A) else if A.1 16 (i2n s) = 0 then (-11, A) else if ¬ (0 ≤ i.toInt ∧ i.toInt ≤ (A.1 18 (i2n s) - 1).toInt) then (-12, A) else (1, zUp A (20 + i2n s) (i2n i) (s_narrow (A.1 17 (i2n s)) v))
def zSheet (A : Abs) (s : Nat) (th so nn : Int32) (N : Nat) (f : Nat → Int32) : Abs := (fun b k => if b = 16 ∧ k = s then th else if b = 17 ∧ k = s then so else if b = 18 ∧ k = s then nn else if b = 20 + s ∧ k < N then f k else A.1 b k, A.2)
noncomputable def zr_sheet (A : Abs) (s so nn : Int32) : Int32 × Abs := by
  classical
  exact if ¬ (isSh s ∧ (-1 ≤ so.toInt ∧ so.toInt ≤ 2)) then (-2, A) else if 0 ≤ so then (if 40 < nn then (-2, A) else if nn < 0 then (-14, A) else (1, zSheet A (i2n s) 1 so nn (i2n nn) (fun _ => 0))) else (1, zSheet A (i2n s) 0 so nn 0 (fun _ => 0))
section HO
variable {o a : Nat} {M M' : Nat → Nat → Int32} {A : Abs}
theorem put_abs {κ : Crt} (hA : rABSg o a M A) (h : rGet o M' = κ) (hk : ∀ b k, ¬ RD o b k → M' b k = M b k) : rABSg o a M' (zPut A κ) := by
  have g0 : ∀ p, p < 2 → M' (o + 4) p = κ p := fun p hp => by rw [← h, rg0 hp]
  have g1 : ∀ p, p < 2 → M' (o + 5) p = κ (2 + p) := fun p hp => by rw [← h, rg1 hp]
  have g4 : M' o 11 = κ 4 := by rw [← h]; rfl
  refine rABS_chg hA (fun b k x i hl => ?_) (zPut_a (by decide)) (zPut_o (by decide)) (zPut_o (by decide)) rfl (funext fun k => hk _ _ (by unfold RD; omega)) (funext fun k => hk _ _ (by unfold RD; omega)) (funext fun k => hk _ _ (by unfold RD; omega)) (hk _ _ (by unfold RD; omega))
  by_cases e0 : b = 0
  · subst e0
    obtain ⟨rfl, rfl, hk2⟩ : x = o + 4 ∧ i = k ∧ k < 2 := by unfold LOC at hl; omega
    exact Or.inl ((g0 _ hk2).trans (zPut_0 hk2).symm)
  · by_cases e1 : b = 1
    · subst e1
      obtain ⟨rfl, rfl, hk2⟩ : x = o + 5 ∧ i = k ∧ k < 2 := by unfold LOC at hl; omega
      exact Or.inl ((g1 _ hk2).trans (zPut_1 hk2).symm)
    · by_cases e4 : b = 4
      · subst e4
        obtain ⟨rfl, rfl, rfl⟩ : x = o ∧ i = 11 ∧ k = 0 := by unfold LOC at hl; omega
        exact Or.inl g4
      · refine Or.inr ⟨hk _ _ ?_, zPut_o ⟨e0, e1, e4⟩⟩
        unfold LOC at hl; unfold RD; omega
theorem zsh_o {s : Nat} {th so nn : Int32} {N : Nat} {f : Nat → Int32} {b k : Nat} (h : ¬ (16 ≤ b ∧ b < 19 ∧ k = s) ∧ ¬ (b = 20 + s ∧ k < N)) : (zSheet A s th so nn N f).1 b k = A.1 b k := by
  show (if b = 16 ∧ k = s then th else if b = 17 ∧ k = s then so else if b = 18 ∧ k = s then nn else if b = 20 + s ∧ k < N then f k else A.1 b k) = _
  rw [if_neg (by omega), if_neg (by omega), if_neg (by omega), if_neg (by omega)]
theorem zsh_16 {s : Nat} {th so nn : Int32} {N : Nat} {f : Nat → Int32} : (zSheet A s th so nn N f).1 16 s = th := if_pos ⟨rfl, rfl⟩
theorem zsh_17 {s : Nat} {th so nn : Int32} {N : Nat} {f : Nat → Int32} : (zSheet A s th so nn N f).1 17 s = so := by
  show (if 17 = 16 ∧ s = s then th else if 17 = 17 ∧ s = s then so else if 17 = 18 ∧ s = s then nn else if 17 = 20 + s ∧ s < N then f s else A.1 (17) s) = _
  rw [if_neg (by omega), if_pos ⟨rfl, rfl⟩]
theorem zsh_18 {s : Nat} {th so nn : Int32} {N : Nat} {f : Nat → Int32} : (zSheet A s th so nn N f).1 18 s = nn := by
  show (if 18 = 16 ∧ s = s then th else if 18 = 17 ∧ s = s then so else if 18 = 18 ∧ s = s then nn else if 18 = 20 + s ∧ s < N then f s else A.1 (18) s) = _
  rw [if_neg (by omega), if_neg (by omega), if_pos ⟨rfl, rfl⟩]
theorem zsh_20 {s : Nat} {th so nn : Int32} {N k : Nat} {f : Nat → Int32} (h : k < N) : (zSheet A s th so nn N f).1 (20 + s) k = f k := by
  show (if 20 + s = 16 ∧ k = s then th else if 20 + s = 17 ∧ k = s then so else if 20 + s = 18 ∧ k = s then nn else if 20 + s = 20 + s ∧ k < N then f k else A.1 (20 + s) k) = _
  rw [if_neg (by omega), if_neg (by omega), if_neg (by omega), if_pos ⟨rfl, h⟩]
theorem sheet_abs {s N : Nat} {th so nn : Int32} {f : Nat → Int32} (hs : s < 4) (hN : N ≤ 40) (hA : rABSg o a M A) (h16 : M' (o + 15) s = th) (h17 : M' (o + 16) s = so) (h18 : M' (o + 17) s = nn) (hz : ∀ j, j < N → M' (o + 18) (40 * s + j) = f j)
    (hk : ∀ b k, ¬ (b = o + 15 ∧ k = s) → ¬ (b = o + 16 ∧ k = s) → ¬ (b = o + 17 ∧ k = s) → ¬ (b = o + 18 ∧ 40 * s ≤ k ∧ k < 40 * s + N) → M' b k = M b k) : rABSg o a M' (zSheet A s th so nn N f) := by
  have ho : ∀ b k, b ≠ o + 15 → b ≠ o + 16 → b ≠ o + 17 → b ≠ o + 18 → M' b k = M b k := fun b k z1 z2 z3 z4 => hk b k (by omega) (by omega) (by omega) (by omega)
  refine rABS_chg hA (fun b k x i hl => ?_) (funext fun k => zsh_o (by omega)) (zsh_o (by omega)) (zsh_o (by omega)) rfl (funext fun k => ho _ _ (by omega) (by omega) (by omega) (by omega)) (funext fun k => ho _ _ (by omega) (by omega) (by omega) (by omega)) (funext fun k => ho _ _ (by omega) (by omega) (by omega) (by omega)) (ho _ _ (by omega) (by omega) (by omega) (by omega))
  by_cases e6 : b = 16 ∧ k = s
  · obtain ⟨rfl, rfl⟩ := e6
    obtain ⟨rfl, rfl⟩ : x = o + 15 ∧ i = k := by unfold LOC at hl; omega
    exact Or.inl (h16.trans zsh_16.symm)
  · by_cases e7 : b = 17 ∧ k = s
    · obtain ⟨rfl, rfl⟩ := e7
      obtain ⟨rfl, rfl⟩ : x = o + 16 ∧ i = k := by unfold LOC at hl; omega
      exact Or.inl (h17.trans zsh_17.symm)
    · by_cases e8 : b = 18 ∧ k = s
      · obtain ⟨rfl, rfl⟩ := e8
        obtain ⟨rfl, rfl⟩ : x = o + 17 ∧ i = k := by unfold LOC at hl; omega
        exact Or.inl (h18.trans zsh_18.symm)
      · by_cases e20 : b = 20 + s ∧ k < N
        · obtain ⟨rfl, hkN⟩ := e20
          obtain ⟨rfl, rfl⟩ : x = o + 18 ∧ i = 40 * s + k := by unfold LOC at hl; omega
          exact Or.inl ((hz k hkN).trans (zsh_20 hkN).symm)
        · refine Or.inr ⟨hk _ _ ?_ ?_ ?_ ?_, zsh_o ⟨by omega, e20⟩⟩ <;> (unfold LOC at hl; omega)
end HO
def zImg (A : Abs) : Abs := (zUp (zUp (zUp (zUp (zUp (zUp (zUp (zUp (zUp (zUp (zUp (zUp (zUp (zUp (zUp (zUp (zUp (zUp (zUp (zUp (zUp (zUp (zUp A 13 0 (A.1 0 0)) 13 2 (A.1 1 0)) 13 4 (A.1 2 0)) 13 6 (A.1 3 0)) 13 1 (A.1 0 1)) 13 3 (A.1 1 1)) 13 5 (A.1 2 1)) 13 7 (A.1 3 1)) 14 0 (A.1 6 0)) 14 6 (A.1 7 0)) 14 1 (A.1 6 1)) 14 7 (A.1 7 1)) 14 2 (A.1 6 2)) 14 8 (A.1 7 2)) 14 3 (A.1 6 3)) 14 9 (A.1 7 3)) 14 4 (A.1 6 4)) 14 10 (A.1 7 4)) 14 5 (A.1 6 5)) 14 11 (A.1 7 5)) 15 0 (A.1 8 0)) 15 1 (A.1 4 0)) 15 2 (A.1 9 0))
def zBck (A : Abs) : Abs := (zUp (zUp (zUp (zUp (zUp (zUp (zUp (zUp (zUp (zUp (zUp (zUp (zUp (zUp (zUp (zUp (zUp (zUp (zUp (zUp (zUp (zUp (zUp A 0 0 (A.1 13 0)) 1 0 (A.1 13 2)) 2 0 (A.1 13 4)) 3 0 (A.1 13 6)) 0 1 (A.1 13 1)) 1 1 (A.1 13 3)) 2 1 (A.1 13 5)) 3 1 (A.1 13 7)) 6 0 (A.1 14 0)) 7 0 (A.1 14 6)) 6 1 (A.1 14 1)) 7 1 (A.1 14 7)) 6 2 (A.1 14 2)) 7 2 (A.1 14 8)) 6 3 (A.1 14 3)) 7 3 (A.1 14 9)) 6 4 (A.1 14 4)) 7 4 (A.1 14 10)) 6 5 (A.1 14 5)) 7 5 (A.1 14 11)) 8 0 (A.1 15 0)) 4 0 (A.1 15 1)) 9 0 (A.1 15 2))
noncomputable def zr_back (A : Abs) : Int32 × Abs := if A.1 15 0 = -1 then (-3, A) else (A.1 15 0, zBck A)
