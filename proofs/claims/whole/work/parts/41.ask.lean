/-! ===== questions, as functions of the state ===== -/
abbrev isPl (s : Int32) : Prop := 0 ≤ s.toInt ∧ s.toInt ≤ 1
noncomputable def zr_best (A : Abs) (pl n what : Int32) : Int32 := by
  classical
  exact if ¬ (isPl pl ∧ (0 ≤ n.toInt ∧ n.toInt ≤ 5) ∧ isPl what) then -100 else if what = 0 then (zval (i2n n) A (i2n pl)).1 else (zval (i2n n) A (i2n pl)).2
noncomputable def zr_sure (A : Abs) (pl : Int32) : Int32 := by
  classical
  exact if ¬ isPl pl then -2 else if (zval 1 A (i2n pl)).1 = 1 then 1 else if (zval 3 A (i2n pl)).1 = 1 then 3 else if (zval 5 A (i2n pl)).1 = 1 then 5 else -1
/-- how late player p is from cell c for stroke k of the other one -/
def zlate (A : Abs) (p : Nat) (c : Int32) (k : Nat) : Int32 :=
  s_needs (zE A) (A.1 4 0) (A.1 1 p) (A.1 2 p) c (s_comes (A.1 5 k) (A.1 7 k) (A.1 0 (1 - p))) - s_tenths (zE A) (A.1 4 0) (A.1 1 (1 - p)) (A.1 2 (1 - p)) (A.1 5 k) (A.1 6 k) (A.1 0 (1 - p)) (s_comes (A.1 5 k) (A.1 7 k) (A.1 0 (1 - p)))
def zmost (f : Nat → Int32) : Nat → Int32
  | 0 => 0
  | k + 1 => if k = 0 ∨ zmost f k < f k then f k else zmost f k
def zbad (A : Abs) (p : Nat) (c : Int32) : Int32 := zmost (zlate A p c) (zcnt A)
def zleast (f : Nat → Int32) : Nat → Int32 × Int32
  | 0 => (-1, 0)
  | c + 1 => if (zleast f c).1 = -1 ∨ f c < (zleast f c).2 then (nI c, f c) else zleast f c
noncomputable def zr_stand (A : Abs) (pl what : Int32) : Int32 := by
  classical
  exact if ¬ (isPl pl ∧ isPl what) then -100000 else if what = 0 then (zleast (fun c => zbad A (i2n pl) (nI c)) 25).1 else (zleast (fun c => zbad A (i2n pl) (nI c)) 25).2
def ztir (A : Abs) (p : Nat) : Nat → Int32 × Int32
  | 0 => (-1, -1)
  | k + 1 => if ¬ zw A k p ∧ (ztir A p k).2 < s_far (A.1 0 (1 - p)) (zto A k p) then (nI k, s_far (A.1 0 (1 - p)) (zto A k p)) else ztir A p k
noncomputable def zr_tires (A : Abs) (pl : Int32) : Int32 := by
  classical
  exact if ¬ isPl pl then -2 else (ztir A (i2n pl) (zcnt A)).1
theorem i2n_1 {p : Nat} (h : p ≤ 1) : i2n (nI p) = p := nI_clamp (by omega)
theorem qI_n {o n : Nat} {S : Nat → Nat × Nat} {M : Nat → Nat → Int32} {L : Nat → Nat → Int64} {P : Nat → Nat → Option Nat} {r r' : Int32} (e : r' = r) : qI o n S M P r (some (.int r')) (n, S, M, L, P) := ⟨by rw [e], M, L, rfl, fun _ _ _ => rfl⟩
