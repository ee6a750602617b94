/-! ===== the state as numbers: a table T and what each text says =====
T 0 cells, 1 legs, 2 quick, 3 homes (of a player); 4 0 warm; 5 kinds, 6 numbers, 7 aims (of a stroke); 8 0 how many strokes; 9 0 the rule; 10 0 how many texts;
11 the tape, 12 0 its size; 13 players kept, 14 strokes kept, 15 0 how many kept, 15 1 warm kept, 15 2 the rule kept; 16 there, 17 sort, 18 size (of a sheet); 20 + s its items -/
abbrev Abs : Type := (Nat → Nat → Int32) × (Nat → RuleF)
abbrev zE (A : Abs) : RuleF := A.2 (i2n (A.1 9 0))
def zC (A : Abs) : Crt := fun j => if j < 2 then A.1 0 j else if j < 4 then A.1 1 (j - 2) else if j = 4 then A.1 4 0 else 0
abbrev zQ (A : Abs) : Nat → Int32 := t2 (A.1 2)
abbrev zH (A : Abs) : Nat → Int32 := t2 (A.1 3)
abbrev zN (A : Abs) (s : Nat) : Nat := i2n (A.1 18 s)
abbrev zKq (A : Abs) (s : Nat) : Nat → Int32 := rq (zN A s) (A.1 5) (A.1 (20 + s))
abbrev zNq (A : Abs) (s : Nat) : Nat → Int32 := rq (zN A s) (A.1 6) (A.1 (20 + s))
abbrev zAq (A : Abs) (s : Nat) : Nat → Int32 := rq (zN A s) (A.1 7) (A.1 (20 + s))
noncomputable abbrev z_rb (A : Abs) (s : Int32) : Int32 := s_rb (A.1 16) (A.1 18) (fun s j => A.1 (20 + s) j) (A.1 8 0) s
abbrev z_st (A : Abs) (s j : Nat) : Crt := sr_st (zE A) (zQ A) (zH A) (zKq A s) (zNq A s) (zAq A s) (zC A) j
abbrev z_to (A : Abs) (s j : Nat) : Int32 := sr_to (zE A) (zQ A) (zH A) (zKq A s) (zNq A s) (zAq A s) (zC A) j
abbrev z_lk (A : Abs) (s j : Nat) : Int64 := sr_lk (zE A) (zQ A) (zH A) (zKq A s) (zNq A s) (zAq A s) (zC A) j
noncomputable abbrev z_way (A : Abs) (s j : Nat) : Int32 := sr_way (zE A) (zQ A) (zH A) (zKq A s) (zNq A s) (zAq A s) (zC A) j
abbrev z_fin (A : Abs) (s : Nat) : Nat × Bool := sr_fin (zE A) (zQ A) (zH A) (zKq A s) (zNq A s) (zAq A s) (zC A) (zN A s) 0
/-- what is so of every state -/
def RNG (A : Abs) : Prop := (∀ p, p < 2 → cv (A.1 0 p)) ∧ (∀ p, p < 2 → A.1 3 p = -1 ∨ cv (A.1 3 p)) ∧ (∀ q, q < 6 → cv (A.1 7 q)) ∧ (∃ c, c ≤ 6 ∧ A.1 8 0 = nI c) ∧ (∀ s, s < 4 → A.1 16 s = 0 ∨ (A.1 16 s = 1 ∧ ∃ N, N ≤ 40 ∧ A.1 18 s = nI N)) ∧ (∃ c, 1 ≤ c ∧ c ≤ 6 ∧ A.1 10 0 = nI c ∧ ∃ r, r < c ∧ A.1 9 0 = nI r)
/-- the reference's memory holds A -/
def rABSg (o a : Nat) (M : Nat → Nat → Int32) (A : Abs) : Prop :=
  (∀ p, p < 2 → M (o + 4) p = A.1 0 p) ∧ (∀ p, p < 2 → M (o + 5) p = A.1 1 p) ∧ (∀ p, p < 2 → M (o + 6) p = A.1 2 p) ∧ (∀ p, p < 2 → M (o + 7) p = A.1 3 p) ∧ M o 11 = A.1 4 0 ∧
  (∀ q, q < 6 → M (o + 8) q = A.1 5 q) ∧ (∀ q, q < 6 → M (o + 9) q = A.1 6 q) ∧ (∀ q, q < 6 → M (o + 10) q = A.1 7 q) ∧ M o 15 = A.1 8 0 ∧ M o 4 = A.1 9 0 ∧ M o 3 = A.1 10 0 ∧
  (∀ i, i < i2n (A.1 12 0) → M (o + 3) i = A.1 11 i) ∧ M o 6 = A.1 12 0 ∧ (∀ j, j < 8 → M (o + 13) j = A.1 13 j) ∧ (∀ j, j < 12 → M (o + 14) j = A.1 14 j) ∧ (M o 44 = A.1 15 0 ∧ M o 45 = A.1 15 1 ∧ M o 46 = A.1 15 2) ∧
  (∀ s, s < 4 → M (o + 15) s = A.1 16 s) ∧ (∀ s, s < 4 → M (o + 16) s = A.1 17 s) ∧ (∀ s, s < 4 → M (o + 17) s = A.1 18 s) ∧ (∀ s j, s < 4 → j < 40 → M (o + 18) (40 * s + j) = A.1 (20 + s) j) ∧
  (∀ i, i < i2n (A.1 10 0) → ∃ m, m ≤ 160 ∧ M (o + 2) i = nI m ∧ TXT (fun j => M (o + 1) (160 * i + j)) m (A.2 i)) ∧ M o 33 = nI a
abbrev rABS (o : Nat) (M : Nat → Nat → Int32) (A : Abs) : Prop := rABSg o 0 M A
section RABS
variable {o a : Nat} {M : Nat → Nat → Int32} {A : Abs}
theorem rABSg.keep {M' : Nat → Nat → Int32} (h : rABSg o a M A) (hk : ∀ b k, ¬ TD o b k → M' b k = M b k) : rABSg o a M' A := by
  have ka : ∀ t, 0 < t → t ≠ 11 → t ≠ 12 → M' (o + t) = M (o + t) := fun t h0 h1 h2 => funext fun k => hk _ _ (by unfold TD; omega)
  have ko : ∀ k, ¬ (k = 31 ∨ k = 34 ∨ k = 35 ∨ k = 37 ∨ k = 39 ∨ k = 40 ∨ k = 41) → M' o k = M o k := fun k h => hk _ _ (by unfold TD; omega)
  unfold rABSg at *
  rw [ka 1 (by decide) (by decide) (by decide), ka 2 (by decide) (by decide) (by decide), ka 3 (by decide) (by decide) (by decide), ka 4 (by decide) (by decide) (by decide), ka 5 (by decide) (by decide) (by decide), ka 6 (by decide) (by decide) (by decide), ka 7 (by decide) (by decide) (by decide), ka 8 (by decide) (by decide) (by decide), ka 9 (by decide) (by decide) (by decide), ka 10 (by decide) (by decide) (by decide), ka 13 (by decide) (by decide) (by decide), ka 14 (by decide) (by decide) (by decide), ka 15 (by decide) (by decide) (by decide), ka 16 (by decide) (by decide) (by decide), ka 17 (by decide) (by decide) (by decide), ka 18 (by decide) (by decide) (by decide), ko 11 (by decide), ko 15 (by decide), ko 4 (by decide), ko 3 (by decide), ko 6 (by decide), ko 44 (by decide), ko 45 (by decide), ko 46 (by decide), ko 33 (by decide)]
  exact h
theorem rABSg.c4 (h : rABSg o a M A) {p : Nat} (hp : p < 2) : M (o + 4) p = A.1 0 p := h.1 p hp
theorem rABSg.c5 (h : rABSg o a M A) {p : Nat} (hp : p < 2) : M (o + 5) p = A.1 1 p := h.2.1 p hp
theorem rABSg.c6 (h : rABSg o a M A) {p : Nat} (hp : p < 2) : M (o + 6) p = A.1 2 p := h.2.2.1 p hp
theorem rABSg.c7 (h : rABSg o a M A) {p : Nat} (hp : p < 2) : M (o + 7) p = A.1 3 p := h.2.2.2.1 p hp
theorem rABSg.c11 (h : rABSg o a M A) : M o 11 = A.1 4 0 := h.2.2.2.2.1
theorem rABSg.c8 (h : rABSg o a M A) {p : Nat} (hp : p < 6) : M (o + 8) p = A.1 5 p := h.2.2.2.2.2.1 p hp
theorem rABSg.c9 (h : rABSg o a M A) {p : Nat} (hp : p < 6) : M (o + 9) p = A.1 6 p := h.2.2.2.2.2.2.1 p hp
theorem rABSg.c10 (h : rABSg o a M A) {p : Nat} (hp : p < 6) : M (o + 10) p = A.1 7 p := h.2.2.2.2.2.2.2.1 p hp
theorem rABSg.cnt (h : rABSg o a M A) : M o 15 = A.1 8 0 := h.2.2.2.2.2.2.2.2.1
theorem rABSg.rul (h : rABSg o a M A) : M o 4 = A.1 9 0 := h.2.2.2.2.2.2.2.2.2.1
theorem rABSg.tc (h : rABSg o a M A) : M o 3 = A.1 10 0 := h.2.2.2.2.2.2.2.2.2.2.1
theorem rABSg.tap (h : rABSg o a M A) {i : Nat} (hi : i < i2n (A.1 12 0)) : M (o + 3) i = A.1 11 i := h.2.2.2.2.2.2.2.2.2.2.2.1 i hi
theorem rABSg.tsz (h : rABSg o a M A) : M o 6 = A.1 12 0 := h.2.2.2.2.2.2.2.2.2.2.2.2.1
theorem rABSg.k13 (h : rABSg o a M A) {p : Nat} (hp : p < 8) : M (o + 13) p = A.1 13 p := h.2.2.2.2.2.2.2.2.2.2.2.2.2.1 p hp
theorem rABSg.k14 (h : rABSg o a M A) {p : Nat} (hp : p < 12) : M (o + 14) p = A.1 14 p := h.2.2.2.2.2.2.2.2.2.2.2.2.2.2.1 p hp
theorem rABSg.k15 (h : rABSg o a M A) : M o 44 = A.1 15 0 ∧ M o 45 = A.1 15 1 ∧ M o 46 = A.1 15 2 := h.2.2.2.2.2.2.2.2.2.2.2.2.2.2.2.1
theorem rABSg.th (h : rABSg o a M A) {p : Nat} (hp : p < 4) : M (o + 15) p = A.1 16 p := h.2.2.2.2.2.2.2.2.2.2.2.2.2.2.2.2.1 p hp
theorem rABSg.so (h : rABSg o a M A) {p : Nat} (hp : p < 4) : M (o + 16) p = A.1 17 p := h.2.2.2.2.2.2.2.2.2.2.2.2.2.2.2.2.2.1 p hp
theorem rABSg.sz (h : rABSg o a M A) {p : Nat} (hp : p < 4) : M (o + 17) p = A.1 18 p := h.2.2.2.2.2.2.2.2.2.2.2.2.2.2.2.2.2.2.1 p hp
theorem rABSg.im (h : rABSg o a M A) {s j : Nat} (hs : s < 4) (hj : j < 40) : M (o + 18) (40 * s + j) = A.1 (20 + s) j := h.2.2.2.2.2.2.2.2.2.2.2.2.2.2.2.2.2.2.2.1 s j hs hj
theorem rABSg.tx (h : rABSg o a M A) {i : Nat} (hi : i < i2n (A.1 10 0)) : ∃ m, m ≤ 160 ∧ M (o + 2) i = nI m ∧ TXT (fun j => M (o + 1) (160 * i + j)) m (A.2 i) := h.2.2.2.2.2.2.2.2.2.2.2.2.2.2.2.2.2.2.2.2.1 i hi
theorem rABSg.as (h : rABSg o a M A) : M o 33 = nI a := h.2.2.2.2.2.2.2.2.2.2.2.2.2.2.2.2.2.2.2.2.2
theorem rABSg.cvr (h : rABSg o a M A) (hg : RNG A) : CVR o M := ⟨fun p hp => by rw [h.c4 hp]; exact hg.1 p hp, fun p hp => by rw [h.c7 hp]; exact hg.2.1 p hp, fun q hq => by rw [h.c10 hq]; exact hg.2.2.1 q hq⟩
theorem rABSg.shi (h : rABSg o a M A) (hg : RNG A) : SHI o M := by
  obtain ⟨-, -, -, ⟨c, hc, ec⟩, hs, -⟩ := hg
  refine ⟨fun s hs4 => ?_, c, hc, h.cnt.trans ec⟩
  rw [h.th hs4, h.sz hs4]
  exact hs s hs4
theorem rABSg.rtx (h : rABSg o a M A) (hg : RNG A) : RTX o M (zE A) := by
  obtain ⟨-, -, -, -, -, c, h1, h6, ec, r, hr, er⟩ := hg
  have e : i2n (A.1 9 0) = r := by rw [er]; exact nI_clamp (by omega)
  obtain ⟨m, hm, e1, e2⟩ := h.tx (i := r) (by rw [ec]; show r < (nI c).toNatClampNeg; rw [nI_clamp (by omega)]; exact hr)
  exact ⟨r, m, by omega, hm, h.rul.trans er, e1, by rw [show zE A = A.2 r by unfold zE; rw [e]]; exact e2⟩
theorem rABSg.zc (h : rABSg o a M A) : rGet o M = zC A := by
  funext j
  unfold rGet zC
  split
  · exact h.c4 (by assumption)
  · split
    · exact h.c5 (by omega)
    · rw [h.c11]
theorem rABSg.zq (h : rABSg o a M A) : aQ o M = zQ A := by
  funext p
  show t2 _ p = t2 _ p
  unfold t2
  rw [h.c6 (by decide), h.c6 (by decide)]
theorem rABSg.zh (h : rABSg o a M A) : aH o M = zH A := by
  funext p
  show t2 _ p = t2 _ p
  unfold t2
  rw [h.c7 (by decide), h.c7 (by decide)]
theorem rABSg.zn (h : rABSg o a M A) {s N : Nat} (hr : RLY o M s N) : zN A s = N := by
  obtain ⟨h4, hN, e, -⟩ := hr
  show i2n _ = N
  rw [← h.sz h4, e]
  exact nI_clamp (by omega)
theorem rABSg.rq5 (h : rABSg o a M A) {s N : Nat} (hr : RLY o M s N) (t u : Nat) (hf : ∀ q, q < 6 → M (o + t) q = A.1 u q) : rq N (M (o + t)) (rrow o s M) = rq (zN A s) (A.1 u) (A.1 (20 + s)) := by
  rw [h.zn hr]
  obtain ⟨h4, hN, e, hv⟩ := hr
  funext j
  unfold rq
  split
  · rename_i hj
    obtain ⟨q, hq6, hq⟩ := hv j hj
    have e1 : A.1 (20 + s) j = nI q := by rw [← h.im h4 (by omega)]; exact hq
    rw [show rrow o s M j = nI q from hq, e1, show i2n (nI q) = q from nI_clamp (by omega)]
    exact hf q hq6
  · rfl
/-- the rally's functions are A's -/
theorem rABSg.fun (h : rABSg o a M A) {s N : Nat} (hr : RLY o M s N) : a_fin o M (zE A) s N N 0 = z_fin A s ∧ a_st o M (zE A) s N = z_st A s ∧ a_to o M (zE A) s N = z_to A s ∧ a_lk o M (zE A) s N = z_lk A s ∧ a_way o M (zE A) s N = z_way A s := by
  have e1 := h.zq
  have e2 := h.zh
  have e3 : aK o M s N = zKq A s := h.rq5 hr 8 5 (fun q hq => h.c8 hq)
  have e4 : aN o M s N = zNq A s := h.rq5 hr 9 6 (fun q hq => h.c9 hq)
  have e5 : aA o M s N = zAq A s := h.rq5 hr 10 7 (fun q hq => h.c10 hq)
  have e6 := h.zc
  have e7 := h.zn hr
  refine ⟨?_, ?_, ?_, ?_, ?_⟩
  · unfold a_fin z_fin; rw [e1, e2, e3, e4, e5, e6, e7]
  · funext j; unfold a_st z_st; rw [e1, e2, e3, e4, e5, e6]
  · funext j; unfold a_to z_to; rw [e1, e2, e3, e4, e5, e6]
  · funext j; unfold a_lk z_lk; rw [e1, e2, e3, e4, e5, e6]
  · funext j; unfold a_way z_way; rw [e1, e2, e3, e4, e5, e6]
theorem s_rb_cong {th th' sz sz' : Nat → Int32} {im im' : Nat → Nat → Int32} {cnt : Int32} {s : Int32} (h1 : ∀ s, s < 4 → th s = th' s) (h2 : ∀ s, s < 4 → ¬ th s = 0 → sz s = sz' s ∧ ∀ j, j < i2n (sz s) → im s j = im' s j) : s_rb th sz im cnt s = s_rb th' sz' im' cnt s := by
  unfold s_rb
  by_cases h : ¬ (0 ≤ s.toInt ∧ s.toInt ≤ 3)
  · rw [if_pos h, if_pos h]
  · rw [if_neg h, if_neg h]
    have h' : 0 ≤ s.toInt ∧ s.toInt ≤ 3 := Classical.not_not.mp h
    obtain ⟨k, hk, rfl⟩ := n_of (m := 3) (by decide) h'
    rw [show i2n (nI k) = k from nI_clamp (by omega), h1 k (by omega)]
    by_cases g : th' k = 0
    · rw [if_pos g, if_pos g]
    · rw [if_neg g, if_neg g]
      obtain ⟨e1, e2⟩ := h2 k (by omega) (by rw [h1 k (by omega)]; exact g)
      rw [← e1]
      by_cases z : ∀ j, j < i2n (sz k) → 0 ≤ (im k j).toInt ∧ (im k j).toInt < cnt.toInt
      · rw [if_pos z, if_pos (fun j hj => by rw [← e2 j hj]; exact z j hj)]
      · rw [if_neg z, if_neg (fun q => z (fun j hj => by rw [e2 j hj]; exact q j hj))]
theorem rABSg.rb (h : rABSg o a M A) (hg : RNG A) (s : Int32) : r_rb o M s = z_rb A s := by
  unfold r_rb z_rb
  rw [h.cnt]
  refine s_rb_cong (fun k hk => h.th hk) (fun k hk hn => ⟨h.sz hk, fun j hj => ?_⟩)
  rw [h.th hk] at hn
  rcases hg.2.2.2.2.1 k hk with q | ⟨-, N, hN, eN⟩
  · exact absurd q hn
  · rw [h.sz hk, eN, show i2n (nI N) = N from nI_clamp (by omega)] at hj
    exact h.im hk (by omega)
end RABS
abbrev qI (o n : Nat) (S : Nat → Nat × Nat) (M : Nat → Nat → Int32) (P : Nat → Nat → Option Nat) (r : Int32) : Option Value → Mem → Prop := fun v μ => v = some (.int r) ∧ ∃ M' L', μ = (n, S, M', L', P) ∧ ∀ b k, ¬ TD o b k → M' b k = M b k
abbrev qL (o n : Nat) (S : Nat → Nat × Nat) (M : Nat → Nat → Int32) (P : Nat → Nat → Option Nat) (r : Int64) : Option Value → Mem → Prop := fun v μ => v = some (.long r) ∧ ∃ M' L', μ = (n, S, M', L', P) ∧ ∀ b k, ¬ TD o b k → M' b k = M b k
theorem qI_r {o n : Nat} {S : Nat → Nat × Nat} {M M' : Nat → Nat → Int32} {L' : Nat → Nat → Int64} {P : Nat → Nat → Option Nat} {r r' : Int32} (e : r' = r) (h : ∀ b k, ¬ TD o b k → M' b k = M b k) : qI o n S M P r (some (.int r')) (n, S, M', L', P) := ⟨by rw [e], M', L', rfl, h⟩
theorem qL_r {o n : Nat} {S : Nat → Nat × Nat} {M M' : Nat → Nat → Int32} {L' : Nat → Nat → Int64} {P : Nat → Nat → Option Nat} {r r' : Int64} (e : r' = r) (h : ∀ b k, ¬ TD o b k → M' b k = M b k) : qL o n S M P r (some (.long r')) (n, S, M', L', P) := ⟨by rw [e], M', L', rfl, h⟩
abbrev isSh (s : Int32) : Prop := 0 ≤ s.toInt ∧ s.toInt ≤ 3
noncomputable def zr_rally (A : Abs) (s what : Int32) : Int32 := by
  classical
  exact if ¬ (isSh s ∧ 0 ≤ what.toInt ∧ what.toInt ≤ 6) then -2 else if z_rb A s = 0 then s_what (z_fin A (i2n s)) (z_st A (i2n s) (z_fin A (i2n s)).1) (i2n what) else z_rb A s
noncomputable def zr_likely (A : Abs) (s : Int32) : Int64 := by
  classical
  exact if z_rb A s = 0 then z_lk A (i2n s) (z_fin A (i2n s)).1 else -4611686018427387904
noncomputable def zr_way (A : Abs) (s : Int32) : Int32 := by
  classical
  exact if z_rb A s = 0 then z_way A (i2n s) (z_fin A (i2n s)).1 else z_rb A s
theorem ral_A {o k N : Nat} {M Ma Mb : Nat → Nat → Int32} {L Lb : Nat → Nat → Int64} {A : Abs} {fi : Nat × Bool} (hA : rABS o M A) (hr : RLY o M k N) (h1 : ∀ t, t = 4 ∨ t = 5 ∨ t = 6 ∨ t = 7 ∨ t = 8 ∨ t = 9 ∨ t = 10 ∨ t = 18 → Ma (o + t) = M (o + t)) (h2 : Ma o 11 = M o 11) (hf : fi = a_fin o Ma (zE A) k N N 0) (hin : INVR o Ma (zE A) k N Mb L Lb fi.1 (sr_wins fi)) :
    rGet o Mb = z_st A k (z_fin A k).1 ∧ Mb o 34 = sr_wins (z_fin A k) ∧ Mb o 35 = nI (z_fin A k).1 ∧ Lb o 36 = z_lk A k (z_fin A k).1 ∧ Mb o 37 = z_way A k (z_fin A k).1 ∧ ∀ i, i < (z_fin A k).1 → Mb (o + 12) i = z_to A k i := by
  obtain ⟨x1, x2, x3, x4, x5, x6⟩ := a_cong (s := k) (N := N) h1 h2
  obtain ⟨f1, f2, f3, f4, f5⟩ := hA.fun hr
  have e1 : a_fin o Ma (zE A) k N N 0 = a_fin o M (zE A) k N N 0 := by unfold a_fin; rw [x1, x2, x3, x4, x5, x6]
  have e2 : a_st o Ma (zE A) k N = a_st o M (zE A) k N := by funext j; unfold a_st; rw [x1, x2, x3, x4, x5, x6]
  have e3 : a_to o Ma (zE A) k N = a_to o M (zE A) k N := by funext j; unfold a_to; rw [x1, x2, x3, x4, x5, x6]
  have e4 : a_lk o Ma (zE A) k N = a_lk o M (zE A) k N := by funext j; unfold a_lk; rw [x1, x2, x3, x4, x5, x6]
  have e5 : a_way o Ma (zE A) k N = a_way o M (zE A) k N := by funext j; unfold a_way; rw [x1, x2, x3, x4, x5, x6]
  have ef : fi = z_fin A k := hf.trans (e1.trans f1)
  subst ef
  obtain ⟨-, -, i1, i2, i3, i4, i5, i6⟩ := hin
  refine ⟨?_, i2, i3, ?_, ?_, ?_⟩
  · rw [i1, e2, f2]
  · rw [i4, e4, f4]
  · rw [i5, e5, f5]
  · intro i hi; rw [i6 i hi, e3, f3]
