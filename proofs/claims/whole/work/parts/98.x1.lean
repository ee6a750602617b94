section C40
variable {G : Gx} {sc : Nat → Nat → Prop} {n : Nat} {S : Nat → Nat × Nat} {M : Nat → Nat → Int32} {L : Nat → Nat → Int64} {P : Nat → Nat → Option Nat} {x : Nat}

/-! the rule at the start -/
def cdOf (g : Nat ⊕ ((List Int32 × List Int32 × List Int32) × (Nms → Int32) × (Nms → Int32) × (Nms → Int32))) : Option (List Int32 × List Int32 × List Int32) := match g with
  | .inl _ => none
  | .inr (cs, _) => some cs
set_option maxRecDepth 100000 in
theorem rl56 : cdOf (gTextT (tokC bRule 56)) = some ([8, -1, 3, -15, -13], [9, -4, -14], [-1, 2, -15]) := by decide +kernel
set_option maxRecDepth 100000 in
theorem rl53 : cdOf (gTextT (tokC bRule 53)) = some ([8, -1, 3, -15, -13], [9, -4, -14], [-1, 2, -15]) := by decide +kernel
theorem rl_b : ∀ j, j < 53 → (bytS.getD 0 []).getD j 0 = bRule j := by decide +kernel
theorem cev_u {c : List Int32} {d d' : Nms → Int32} (h : CEV c d) (h' : CEV c d') : d = d' := funext fun nm => (List.cons.inj ((h nm []).symm.trans (h' nm []))).1
theorem gt_cev {b : Nat → Int32} {m : Nat} {cs : List Int32 × List Int32 × List Int32} {d0 d1 d2 : Nms → Int32} (h : gText b m = .inr (cs, d0, d1, d2)) : CEV cs.1 d0 ∧ CEV cs.2.1 d1 ∧ CEV cs.2.2 d2 := by
  rcases e0 : gPart b m 3 0 with k | ⟨c0, f0, i0⟩
  · rw [gt0 e0] at h
    cases h
  rcases e1 : gPart b m 4 i0 with k | ⟨c1, f1, i1⟩
  · rw [gt1 e0 e1] at h
    cases h
  rcases e2 : gPart b m 5 i1 with k | ⟨c2, f2, i2⟩
  · rw [gt2 e0 e1 e2] at h
    cases h
  rw [gt3 e0 e1 e2] at h
  obtain ⟨x0, y0, z0, v0⟩ := gd_part (b := b) (m := m) (key := 3) (by decide) 0 c0 f0 i0 (Nat.zero_le _) e0
  obtain ⟨x1, y1, z1, v1⟩ := gd_part (b := b) (m := m) (key := 4) (by decide) i0 c1 f1 i1 y0 e1
  obtain ⟨x2, y2, z2, v2⟩ := gd_part (b := b) (m := m) (key := 5) (by decide) i1 c2 f2 i2 y1 e2
  by_cases hz : (tok b m i2).1 = 0
  · rw [if_pos hz] at h
    cases h
    exact ⟨v0, v1, v2⟩
  · rw [if_neg hz] at h
    cases h
theorem gRule53 : ∃ cs d0 d1 d2, gText bRule 53 = .inr (cs, d0, d1, d2) ∧ zEf d0 d1 d2 = zSay bRule 56 := by
  obtain ⟨cs, d0, d1, d2, h⟩ := gRule_e
  have h1 := rl56
  rw [← tokC_e, ← gTextT_e, h] at h1
  have h1 : cs = ([8, -1, 3, -15, -13], [9, -4, -14], [-1, 2, -15]) := Option.some.inj h1
  have h2 := rl53
  rw [← tokC_e, ← gTextT_e] at h2
  rcases hg : gText bRule 53 with k | ⟨cs', e0, e1, e2⟩
  · rw [hg] at h2
    exact absurd h2 (fun z => by cases z)
  · rw [hg] at h2
    have h2 : cs' = ([8, -1, 3, -15, -13], [9, -4, -14], [-1, 2, -15]) := Option.some.inj h2
    obtain ⟨a0, a1, a2⟩ := gt_cev h
    obtain ⟨b0, b1, b2⟩ := gt_cev hg
    obtain rfl : cs' = cs := h2.trans h1.symm
    refine ⟨_, _, _, _, rfl, ?_⟩
    rw [cev_u b0 a0, cev_u b1 a1, cev_u b2 a2]
    unfold zSay
    rw [h]
/-! what lies where, as the constructor goes on -/
def CRb : List (Nat × Nat × Nat) := [(0, 0, 1), (0, 1, 2), (0, 3, 4), (0, 7, 5), (0, 9, 6), (0, 10, 7), (0, 12, 8), (0, 13, 9), (2, 0, 3)]
/-- the class's own cells; below it all is as it was -/
def INB (x : Nat) (S0 : Nat → Nat × Nat) (M0 : Nat → Nat → Int32) (P0 : Nat → Nat → Option Nat) (S : Nat → Nat × Nat) (M : Nat → Nat → Int32) (P : Nat → Nat → Option Nat) : Prop :=
  (∀ q ∈ CSh, S (x + q.1) = q.2) ∧ (∀ q ∈ CRb, P (x + q.1) q.2.1 = some (x + q.2.2)) ∧ (M x 2 = 1 ∧ M x 4 = 0 ∧ M x 11 = -1 ∧ M (x + 2) 1 = 0) ∧ ∀ b, b < x → S b = S0 b ∧ ∀ k, P b k = P0 b k ∧ M b k = M0 b k
def TI (x i : Nat) (S : Nat → Nat × Nat) (M : Nat → Nat → Int32) (P : Nat → Nat → Option Nat) : Prop := ∀ j, j < i → (S (x + 10 + 5 * j) = (11, 0) ∧ S (x + 10 + 5 * j + 1) = (20, 160) ∧ S (x + 10 + 5 * j + 2) = (20, 160) ∧ S (x + 10 + 5 * j + 3) = (20, 6) ∧ S (x + 10 + 5 * j + 4) = (20, 3)) ∧ (P (x + 10 + 5 * j) 1 = some (x + 10 + 5 * j + 1) ∧ P (x + 10 + 5 * j) 2 = some (x + 10 + 5 * j + 2) ∧ P (x + 10 + 5 * j) 3 = some (x + 10 + 5 * j + 3) ∧ P (x + 10 + 5 * j) 4 = some (x + 10 + 5 * j + 4)) ∧ P (x + 1) j = some (x + 10 + 5 * j) ∧ M (x + 10 + 5 * j) 0 = nI j
def CI (x i : Nat) (S : Nat → Nat × Nat) (P : Nat → Nat → Option Nat) : Prop := ∀ j, j < i → (S (x + 40 + 3 * j) = (2, 0) ∧ S (x + 40 + 3 * j + 1) = (7, 0) ∧ S (x + 40 + 3 * j + 2) = (7, 0)) ∧ P (x + 40 + 3 * j) 0 = some (x + 40 + 3 * j + 1) ∧ P (x + 40 + 3 * j) 1 = some (x + 40 + 3 * j + 2)
def AI (x i : Nat) (P : Nat → Nat → Option Nat) : Prop := ∀ j, j < i → P (x + 5) j = some (x + 49 + 3 * j)
def SI (x i : Nat) (S : Nat → Nat × Nat) (M : Nat → Nat → Int32) (P : Nat → Nat → Option Nat) : Prop := ∀ j, j < i → (S (x + 67 + 2 * j) = (8, 0) ∧ S (x + 67 + 2 * j + 1) = (20, 40)) ∧ P (x + 67 + 2 * j) 0 = some (x + 67 + 2 * j + 1) ∧ P (x + 8) j = some (x + 67 + 2 * j) ∧ M (x + 67 + 2 * j) 1 = -1
/-- the court played on -/
def C0F (x : Nat) (M : Nat → Nat → Int32) (P : Nat → Nat → Option Nat) : Prop := (M (x + 41) 0 = 12 ∧ M (x + 41) 1 = 500 ∧ M (x + 41) 2 = 5 ∧ M (x + 41) 3 = 12) ∧ (M (x + 42) 0 = 12 ∧ M (x + 42) 1 = 500 ∧ M (x + 42) 2 = 5 ∧ M (x + 42) 3 = 12) ∧ M (x + 40) 2 = 0 ∧ P (x + 40) 3 = some (x + 10) ∧ P x 5 = some (x + 40) ∧ P x 6 = some (x + 43) ∧ P x 8 = some (x + 46)
section INK
variable {i : Nat} {S0 S' : Nat → Nat × Nat} {M0 M' : Nat → Nat → Int32} {P0 P' : Nat → Nat → Option Nat}
theorem INB.sh (h : INB x S0 M0 P0 S M P) {t k m : Nat} (hq : (t, k, m) ∈ CSh) : S (x + t) = (k, m) := h.1 (t, k, m) hq
theorem INB.rf (h : INB x S0 M0 P0 S M P) {t s u : Nat} (hq : (t, s, u) ∈ CRb) : P (x + t) s = some (x + u) := h.2.1 (t, s, u) hq
theorem INB.keep (h : INB x S0 M0 P0 S M P) (hS : ∀ b, b < x + 10 → S' b = S b) (hP : ∀ b k, b < x + 10 → ¬ (b = x + 1 ∨ b = x + 5 ∨ b = x + 8) → ¬ (b = x ∧ (k = 5 ∨ k = 6 ∨ k = 8)) → ¬ (b = x + 2 ∧ k = 2) → P' b k = P b k)
    (hM : ∀ b k, b < x + 10 → ¬ b = x + 3 → ¬ b = x + 2 → M' b k = M b k) (h1 : M' (x + 2) 1 = 0) : INB x S0 M0 P0 S' M' P' := by
  obtain ⟨a1, a2, a3, a4⟩ := h
  refine ⟨fun q hq => ?_, fun q hq => ?_, ?_, fun b hb => ?_⟩
  · have hb : q.1 < 10 := (by decide : ∀ q ∈ CSh, q.1 < 10) q hq
    rw [hS _ (by omega)]
    exact a1 q hq
  · obtain ⟨z1, z2, z3, z4⟩ := (by decide : ∀ q ∈ CRb, q.1 < 10 ∧ ¬ (q.1 = 1 ∨ q.1 = 5 ∨ q.1 = 8) ∧ ¬ (q.1 = 0 ∧ (q.2.1 = 5 ∨ q.2.1 = 6 ∨ q.2.1 = 8)) ∧ ¬ (q.1 = 2 ∧ q.2.1 = 2)) q hq
    rw [hP _ _ (by omega) (by omega) (by omega) (by omega)]
    exact a2 q hq
  · exact ⟨(hM _ _ (by omega) (by omega) (by omega)).trans a3.1, (hM _ _ (by omega) (by omega) (by omega)).trans a3.2.1, (hM _ _ (by omega) (by omega) (by omega)).trans a3.2.2.1, h1⟩
  · exact ⟨(hS _ (by omega)).trans (a4 b hb).1, fun k => ⟨(hP _ _ (by omega) (by omega) (by omega) (by omega)).trans ((a4 b hb).2 k).1, (hM _ _ (by omega) (by omega) (by omega)).trans ((a4 b hb).2 k).2⟩⟩
theorem TI.keep (h : TI x i S M P) (hS : ∀ b, x + 10 ≤ b → b < x + 10 + 5 * i → S' b = S b) (hP : ∀ b k, x + 10 ≤ b → b < x + 10 + 5 * i → P' b k = P b k) (hP1 : ∀ k, k < i → P' (x + 1) k = P (x + 1) k) (hM : ∀ j, j < i → M' (x + 10 + 5 * j) 0 = M (x + 10 + 5 * j) 0) : TI x i S' M' P' := by
  intro j hj
  obtain ⟨⟨a1, a2, a3, a4, a5⟩, ⟨b1, b2, b3, b4⟩, c1, d1⟩ := h j hj
  exact ⟨⟨(hS _ (by omega) (by omega)).trans a1, (hS _ (by omega) (by omega)).trans a2, (hS _ (by omega) (by omega)).trans a3, (hS _ (by omega) (by omega)).trans a4, (hS _ (by omega) (by omega)).trans a5⟩,
    ⟨(hP _ _ (by omega) (by omega)).trans b1, (hP _ _ (by omega) (by omega)).trans b2, (hP _ _ (by omega) (by omega)).trans b3, (hP _ _ (by omega) (by omega)).trans b4⟩, (hP1 _ hj).trans c1, (hM j hj).trans d1⟩
theorem CI.keep (h : CI x i S P) (hS : ∀ b, x + 40 ≤ b → b < x + 40 + 3 * i → S' b = S b) (hP : ∀ b k, x + 40 ≤ b → b < x + 40 + 3 * i → P' b k = P b k) : CI x i S' P' := by
  intro j hj
  obtain ⟨⟨a1, a2, a3⟩, b1, b2⟩ := h j hj
  exact ⟨⟨(hS _ (by omega) (by omega)).trans a1, (hS _ (by omega) (by omega)).trans a2, (hS _ (by omega) (by omega)).trans a3⟩, (hP _ _ (by omega) (by omega)).trans b1, (hP _ _ (by omega) (by omega)).trans b2⟩
theorem SI.keep (h : SI x i S M P) (hS : ∀ b, x + 67 ≤ b → b < x + 67 + 2 * i → S' b = S b) (hP : ∀ b k, x + 67 ≤ b → b < x + 67 + 2 * i → P' b k = P b k) (hP1 : ∀ k, k < i → P' (x + 8) k = P (x + 8) k) (hM : ∀ b k, x + 67 ≤ b → b < x + 67 + 2 * i → M' b k = M b k) : SI x i S' M' P' := by
  intro j hj
  obtain ⟨⟨a1, a2⟩, b1, b2, c1⟩ := h j hj
  exact ⟨⟨(hS _ (by omega) (by omega)).trans a1, (hS _ (by omega) (by omega)).trans a2⟩, (hP _ _ (by omega) (by omega)).trans b1, (hP1 _ hj).trans b2, (hM _ _ (by omega) (by omega)).trans c1⟩
theorem C0F.keep (h : C0F x M P) (hM : ∀ b k, x + 40 ≤ b → b < x + 43 → M' b k = M b k) (hP : P' (x + 40) 3 = P (x + 40) 3) (hP5 : ∀ k, P' x k = P x k) : C0F x M' P' := by
  obtain ⟨⟨a1, a2, a3, a4⟩, ⟨b1, b2, b3, b4⟩, c1, c2, c3, c4, c5⟩ := h
  exact ⟨⟨(hM _ _ (by omega) (by omega)).trans a1, (hM _ _ (by omega) (by omega)).trans a2, (hM _ _ (by omega) (by omega)).trans a3, (hM _ _ (by omega) (by omega)).trans a4⟩, ⟨(hM _ _ (by omega) (by omega)).trans b1, (hM _ _ (by omega) (by omega)).trans b2, (hM _ _ (by omega) (by omega)).trans b3, (hM _ _ (by omega) (by omega)).trans b4⟩, (hM _ _ (by omega) (by omega)).trans c1, hP.trans c2, (hP5 _).trans c3, (hP5 _).trans c4, (hP5 _).trans c5⟩
theorem INB.cwt (h : INB x S0 M0 P0 S M P) (hT : TI x 6 S M P) : CWT x S P := by
  refine ⟨fun q hq => h.1 q ((by decide : ∀ q ∈ CTh, q ∈ CSh) q hq), fun q hq => h.2.1 q ((by decide : ∀ q ∈ CTf, q ∈ CRb) q hq), fun i hi => ?_, trivial⟩
  obtain ⟨⟨a1, a2, a3, a4, a5⟩, ⟨b1, b2, b3, b4⟩, -, -⟩ := hT i hi
  exact ⟨a1, a2, a3, a4, a5, b1, b2, b3, b4⟩
/-- what the constructor leaves -/
def CIN (x : Nat) (S : Nat → Nat × Nat) (M : Nat → Nat → Int32) (P : Nat → Nat → Option Nat) : Prop := CWF x S P ∧ TI x 6 S M P ∧ SI x 4 S M P ∧ C0F x M P ∧ TXC (x + 10) M (zSay bRule 56) ∧ M x 2 = 1 ∧ M x 4 = 0 ∧ M x 11 = -1 ∧ M (x + 2) 1 = 0
theorem CIN_of (hB : INB x S0 M0 P0 S M P) (hT : TI x 6 S M P) (hC : CI x 9 S P) (hA : AI x 6 P) (hS : SI x 4 S M P) (h0 : C0F x M P) (hX : TXC (x + 10) M (zSay bRule 56)) : CIN x S M P := by
  refine ⟨⟨hB.1, fun q hq => ?_, fun i hi => ?_, fun j hj => ?_, fun s hs => ?_⟩, hT, hS, h0, hX, hB.2.2.1⟩
  · simp only [CRf, List.mem_cons, List.not_mem_nil, or_false] at hq
    rcases hq with rfl | rfl | rfl | rfl | rfl | rfl | rfl | rfl | rfl | rfl | rfl | rfl | rfl | rfl | rfl | rfl | rfl | rfl | rfl | rfl | rfl | rfl | rfl | rfl | rfl | rfl | rfl | rfl
    · exact hB.2.1 (0, 0, 1) (by decide)
    · exact hB.2.1 (0, 1, 2) (by decide)
    · exact hB.2.1 (0, 3, 4) (by decide)
    · exact h0.2.2.2.2.1
    · exact h0.2.2.2.2.2.1
    · exact hB.2.1 (0, 7, 5) (by decide)
    · exact h0.2.2.2.2.2.2
    · exact hB.2.1 (0, 9, 6) (by decide)
    · exact hB.2.1 (0, 10, 7) (by decide)
    · exact hB.2.1 (0, 12, 8) (by decide)
    · exact hB.2.1 (0, 13, 9) (by decide)
    · exact hB.2.1 (2, 0, 3) (by decide)
    · exact (hT 0 (by decide)).2.2.1
    · exact (hT 1 (by decide)).2.2.1
    · exact (hT 2 (by decide)).2.2.1
    · exact (hT 3 (by decide)).2.2.1
    · exact (hT 4 (by decide)).2.2.1
    · exact (hT 5 (by decide)).2.2.1
    · exact hA 0 (by decide)
    · exact hA 1 (by decide)
    · exact hA 2 (by decide)
    · exact hA 3 (by decide)
    · exact hA 4 (by decide)
    · exact hA 5 (by decide)
    · exact (hS 0 (by decide)).2.2.1
    · exact (hS 1 (by decide)).2.2.1
    · exact (hS 2 (by decide)).2.2.1
    · exact (hS 3 (by decide)).2.2.1
  · obtain ⟨⟨a1, a2, a3, a4, a5⟩, ⟨b1, b2, b3, b4⟩, -, -⟩ := hT i hi
    exact ⟨a1, a2, a3, a4, a5, b1, b2, b3, b4⟩
  · obtain ⟨⟨a1, a2, a3⟩, b1, b2⟩ := hC j hj
    exact ⟨a1, a2, a3, b1, b2⟩
  · obtain ⟨⟨a1, a2⟩, b1, -, -⟩ := hS s hs
    exact ⟨a1, a2, b1⟩
/-- it is the state at the start -/
theorem CIN.abs (h : CIN x S M P) : cABS x n S P M zInit := by
  obtain ⟨hC, hT, hS, ⟨⟨a1, a2, a3, a4⟩, ⟨b1, b2, b3, b4⟩, c1, c2, -⟩, hX, m2, m4, m11, m1⟩ := h
  have e8 : zInit.1 8 0 = 0 := rfl
  have e15 : zInit.1 15 0 = -1 := rfl
  have e12 : zInit.1 12 0 = 0 := rfl
  have e10 : zInit.1 10 0 = 1 := rfl
  have e16 : ∀ s, zInit.1 16 s = 0 := fun s => by
    show zT0 16 s = 0
    unfold zT0
    rw [if_neg (by omega), if_neg (by omega), if_neg (by omega), if_neg (by omega), if_neg (by omega), if_neg (by omega)]
  have ez : zcnt zInit = 0 := by show i2n _ = 0; rw [e8]; rfl
  refine ⟨⟨⟨0, by decide, rfl⟩, fun p hp => ?_, c1, c2⟩, m2.trans e10.symm, ⟨fun i hi => ?_, fun i hi => (hT i hi).2.2.2⟩, ⟨m4.trans e8.symm, fun q hq => absurd hq (by rw [ez]; exact Nat.not_lt_zero _), fun q u hq => absurd hq (by rw [ez]; exact Nat.not_lt_zero _)⟩, fun s hs => ⟨?_, fun z => absurd (e16 s) z⟩, ⟨m1.trans e12.symm, fun i hi => absurd hi (by rw [e12, show i2n 0 = 0 from rfl]; exact Nat.not_lt_zero _)⟩, ⟨m11.trans e15.symm, fun z => absurd e15 z⟩, fun _ _ => trivial⟩
  · match p, hp with
    | 0, _ => exact ⟨a1, a2, a3, a4⟩
    | 1, _ => exact ⟨b1, b2, b3, b4⟩
  · rw [e10, show i2n 1 = 1 from rfl] at hi
    obtain rfl : i = 0 := by omega
    exact hX
  · rw [if_pos (e16 s)]
    exact (hS s hs).2.2.2
end INK
end C40
