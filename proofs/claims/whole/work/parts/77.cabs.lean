/-! ===== the class's memory holds a state ===== -/
/-- the court at c is B's -/
def CTA (x c : Nat) (P : Nat → Nat → Option Nat) (M : Nat → Nat → Int32) (B : Abs) : Prop :=
  CRT0 x c ∧ (∀ p, p < 2 → M (c + 1 + p) 0 = B.1 0 p ∧ M (c + 1 + p) 1 = B.1 1 p ∧ M (c + 1 + p) 2 = B.1 2 p ∧ M (c + 1 + p) 3 = B.1 3 p) ∧ M c 2 = B.1 4 0 ∧ P c 3 = some (x + 10 + 5 * i2n (B.1 9 0))
/-- the texts -/
def TXS (x : Nat) (M : Nat → Nat → Int32) (A : Abs) : Prop := (∀ i, i < i2n (A.1 10 0) → TXC (x + 10 + 5 * i) M (A.2 i)) ∧ ∀ i, i < 6 → M (x + 10 + 5 * i) 0 = nI i
/-- the strokes -/
def STS (x n : Nat) (S : Nat → Nat × Nat) (P : Nat → Nat → Option Nat) (M : Nat → Nat → Int32) (A : Abs) : Prop :=
  M x 4 = A.1 8 0 ∧ (∀ q, q < zcnt A → ∃ a, P (x + 4) q = some a ∧ x + 94 ≤ a ∧ a < n ∧ STK S M a (A.1 5 q) (A.1 6 q) (A.1 7 q)) ∧ ∀ q u, q < zcnt A → u < zcnt A → P (x + 4) q = P (x + 4) u → q = u
/-- the sheets -/
def SHS (x : Nat) (M : Nat → Nat → Int32) (A : Abs) : Prop := ∀ s, s < 4 → M (x + 67 + 2 * s) 1 = (if A.1 16 s = 0 then -1 else A.1 17 s) ∧ (¬ A.1 16 s = 0 → M (x + 67 + 2 * s) 2 = A.1 18 s ∧ ∀ j, j < i2n (A.1 18 s) → M (x + 67 + 2 * s + 1) j = A.1 (20 + s) j)
/-- the tape -/
def TPS (x : Nat) (M : Nat → Nat → Int32) (A : Abs) : Prop := M (x + 2) 1 = A.1 12 0 ∧ ∀ i, i < i2n (A.1 12 0) → M (x + 3) i = A.1 11 i
/-- the image -/
def IMS (x : Nat) (P : Nat → Nat → Option Nat) (M : Nat → Nat → Int32) (A : Abs) : Prop := M x 11 = A.1 15 0 ∧ (¬ A.1 15 0 = -1 → (∀ p, p < 2 → M (x + 47 + p) 0 = A.1 13 p ∧ M (x + 47 + p) 1 = A.1 13 (2 + p) ∧ M (x + 47 + p) 2 = A.1 13 (4 + p) ∧ M (x + 47 + p) 3 = A.1 13 (6 + p)) ∧ M (x + 46) 2 = A.1 15 1 ∧ P (x + 46) 3 = some (x + 10 + 5 * i2n (A.1 15 2)) ∧ ∀ q, q < i2n (A.1 15 0) → M (x + 6) q = A.1 14 q ∧ M (x + 7) q = A.1 14 (6 + q))
def cABS (x n : Nat) (S : Nat → Nat × Nat) (P : Nat → Nat → Option Nat) (M : Nat → Nat → Int32) (A : Abs) : Prop :=
  CTA x (x + 40) P M A ∧ M x 2 = A.1 10 0 ∧ TXS x M A ∧ STS x n S P M A ∧ SHS x M A ∧ TPS x M A ∧ IMS x P M A ∧ ∀ j, j < 9 → True
/-- what the queries may change in the class: the courts in thought, what a rally leaves -/
def CQ (x b k : Nat) : Prop := (x + 43 ≤ b ∧ b < x + 46) ∨ (x + 49 ≤ b ∧ b < x + 67) ∨ b = x + 9 ∨ (b = x ∧ 14 ≤ k ∧ k ≤ 18)
def CQP (x b k : Nat) : Prop := (b = x + 43 ∨ (x + 49 ≤ b ∧ b < x + 67)) ∧ k = 3
/-- what is so of a state in thought -/
def RN3 (A : Abs) : Prop := RNG A ∧ (∀ p, p < 2 → s_within2 0 999 (A.1 1 p)) ∧ s_within2 0 99 (A.1 4 0) ∧ ∀ q, q < zcnt A → s_within2 0 5 (A.1 5 q) ∧ s_within2 0 9 (A.1 6 q)
theorem RNG2.r3 {A : Abs} (h : RNG2 A) : RN3 A := ⟨h.1, h.2.1, h.2.2.1, h.2.2.2.1⟩
section CA
variable {G : Gx} {sc : Nat → Nat → Prop} {n : Nat} {S : Nat → Nat × Nat} {M M' : Nat → Nat → Int32} {L : Nat → Nat → Int64} {P P' : Nat → Nat → Option Nat} {x c : Nat} {A B : Abs}
theorem CTA.c0 (h : CTA x c P M B) {p : Nat} (hp : p < 2) : M (c + 1 + p) 0 = B.1 0 p := (h.2.1 p hp).1
theorem CTA.c1 (h : CTA x c P M B) {p : Nat} (hp : p < 2) : M (c + 1 + p) 1 = B.1 1 p := (h.2.1 p hp).2.1
theorem CTA.c2 (h : CTA x c P M B) {p : Nat} (hp : p < 2) : M (c + 1 + p) 2 = B.1 2 p := (h.2.1 p hp).2.2.1
theorem CTA.c3 (h : CTA x c P M B) {p : Nat} (hp : p < 2) : M (c + 1 + p) 3 = B.1 3 p := (h.2.1 p hp).2.2.2
theorem CTA.w (h : CTA x c P M B) : M c 2 = B.1 4 0 := h.2.2.1
theorem CTA.g (h : CTA x c P M B) : cG c M = zC B := by
  funext j
  unfold cG zC
  split
  · exact h.c0 (by assumption)
  · split
    · exact h.c1 (by omega)
    · split
      · exact h.w
      · rfl
theorem CTA.q (h : CTA x c P M B) : cQ c M = zQ B := by
  show t2 _ = t2 _
  funext p
  unfold t2
  split
  · exact h.c2 (p := 0) (by decide)
  · exact h.c2 (p := 1) (by decide)
theorem CTA.h (h : CTA x c P M B) : cH c M = zH B := by
  show t2 _ = t2 _
  funext p
  unfold t2
  split
  · exact h.c3 (p := 0) (by decide)
  · exact h.c3 (p := 1) (by decide)
theorem rul_lt (hg : RNG B) : i2n (B.1 9 0) < i2n (B.1 10 0) ∧ i2n (B.1 10 0) ≤ 6 := by
  obtain ⟨-, -, -, -, -, k, h1, h6, ek, r, hr, er⟩ := hg
  rw [er, ek, show i2n (nI r) = r from nI_clamp (by omega), show i2n (nI k) = k from nI_clamp (by omega)]
  exact ⟨hr, h6⟩
theorem CTA.rt (h : CTA x c P M B) (hg : RNG B) (ht : TXS x M B) : CRT x c P M (zE B) :=
  ⟨h.1, i2n (B.1 9 0), by have := rul_lt hg; omega, h.2.2.2, ht.1 _ (rul_lt hg).1⟩
theorem CTA.keep (h : CTA x c P M B) (hk : ∀ k, M' c k = M c k ∧ M' (c + 1) k = M (c + 1) k ∧ M' (c + 2) k = M (c + 2) k) (hP : P' c 3 = P c 3) : CTA x c P' M' B := by
  refine ⟨h.1, fun p hp => ?_, (hk 2).1.trans h.w, hP.trans h.2.2.2⟩
  have e : ∀ k, M' (c + 1 + p) k = M (c + 1 + p) k := fun k => by
    rcases (by omega : p = 0 ∨ p = 1) with rfl | rfl
    · exact (hk k).2.1
    · exact (hk k).2.2
  rw [e, e, e, e]
  exact h.2.1 p hp
theorem STS.at (h : STS x n S P M A) {q : Nat} (hq : q < zcnt A) : ∃ a, P (x + 4) q = some a ∧ x + 94 ≤ a ∧ a < n ∧ STK S M a (A.1 5 q) (A.1 6 q) (A.1 7 q) := h.2.1 q hq
theorem STK.keep {a : Nat} {kd nb am : Int32} (h : STK S M a kd nb am) (h0 : M' a 0 = M a 0) (h1 : M' a 1 = M a 1) : STK S M' a kd nb am := by
  obtain ⟨ci, a1, a2, a3, a4, a5⟩ := h
  exact ⟨ci, a1, a2, a3, h0.trans a4, h1.trans a5⟩
theorem STS.keep (h : STS x n S P M A) (h4 : M' x 4 = M x 4) (hk : ∀ b k, x + 94 ≤ b → M' b k = M b k) (hP : ∀ k, P' (x + 4) k = P (x + 4) k) : STS x n S P' M' A := by
  obtain ⟨a1, a2, a3⟩ := h
  refine ⟨h4.trans a1, fun q hq => ?_, fun q u hq hu e => a3 q u hq hu (by rw [← hP, ← hP]; exact e)⟩
  obtain ⟨a, b1, b2, b3, b4⟩ := a2 q hq
  exact ⟨a, (hP q).trans b1, b2, b3, b4.keep (hk _ _ b2) (hk _ _ b2)⟩
theorem TXS.keep (h : TXS x M A) (hk : ∀ b k, x + 10 ≤ b → b < x + 40 → M' b k = M b k) (h6 : i2n (A.1 10 0) ≤ 6) : TXS x M' A :=
  ⟨fun i hi => (h.1 i hi).keep (fun k => hk _ _ (by omega) (by omega)) (fun k => hk _ _ (by omega) (by omega)), fun i hi => (hk _ _ (by omega) (by omega)).trans (h.2 i hi)⟩
theorem SHS.keep (h : SHS x M A) (hk : ∀ b k, x + 67 ≤ b → b < x + 75 → M' b k = M b k) : SHS x M' A := by
  intro s hs
  obtain ⟨h1, h2⟩ := h s hs
  refine ⟨(hk _ _ (by omega) (by omega)).trans h1, fun z => ?_⟩
  obtain ⟨h3, h4⟩ := h2 z
  exact ⟨(hk _ _ (by omega) (by omega)).trans h3, fun j hj => (hk _ _ (by omega) (by omega)).trans (h4 j hj)⟩
theorem TPS.keep (h : TPS x M A) (h1 : M' (x + 2) 1 = M (x + 2) 1) (h3 : ∀ k, M' (x + 3) k = M (x + 3) k) : TPS x M' A := ⟨h1.trans h.1, fun i hi => (h3 i).trans (h.2 i hi)⟩
theorem IMS.keep (h : IMS x P M A) (h11 : M' x 11 = M x 11) (hk : ∀ b k, (x + 46 ≤ b ∧ b < x + 49) ∨ b = x + 6 ∨ b = x + 7 → M' b k = M b k) (hP : P' (x + 46) 3 = P (x + 46) 3) : IMS x P' M' A := by
  refine ⟨h11.trans h.1, fun z => ?_⟩
  obtain ⟨a1, a2, a3, a4⟩ := h.2 z
  refine ⟨fun p hp => ?_, (hk _ _ (by omega)).trans a2, hP.trans a3, fun q hq => ?_⟩
  · rw [hk _ 0 (by omega), hk _ 1 (by omega), hk _ 2 (by omega), hk _ 3 (by omega)]
    exact a1 p hp
  · rw [hk _ _ (by omega), hk _ _ (by omega)]
    exact a4 q hq
/-- what a query leaves -/
theorem cABS.keep (h : cABS x n S P M A) (h6 : i2n (A.1 10 0) ≤ 6) (hk : ∀ b k, x ≤ b → ¬ (x + 75 ≤ b ∧ b < x + 94) → ¬ CQ x b k → M' b k = M b k) (hP : ∀ b k, x ≤ b → b < x + 75 → ¬ CQP x b k → P' b k = P b k) (hu : ∀ j, j < 9 → True) : cABS x n S P' M' A := by
  obtain ⟨a1, a2, a3, a4, a5, a6, a7, -⟩ := h
  refine ⟨a1.keep (fun k => ⟨hk _ _ (by omega) (by omega) (by unfold CQ; omega), hk _ _ (by omega) (by omega) (by unfold CQ; omega), hk _ _ (by omega) (by omega) (by unfold CQ; omega)⟩) (hP _ _ (by omega) (by omega) (by unfold CQP; omega)), (hk _ _ (by omega) (by omega) (by unfold CQ; omega)).trans a2, a3.keep (fun b k z1 z2 => hk _ _ (by omega) (by omega) (by unfold CQ; omega)) h6,
    a4.keep (hk _ _ (by omega) (by omega) (by unfold CQ; omega)) (fun b k z => hk _ _ (by omega) (by omega) (by unfold CQ; omega)) (fun k => hP _ _ (by omega) (by omega) (by unfold CQP; omega)), a5.keep (fun b k z1 z2 => hk _ _ (by omega) (by omega) (by unfold CQ; omega)), a6.keep (hk _ _ (by omega) (by omega) (by unfold CQ; omega)) (fun k => hk _ _ (by omega) (by omega) (by unfold CQ; omega)),
    a7.keep (hk _ _ (by omega) (by omega) (by unfold CQ; omega)) (fun b k z => hk _ _ (by omega) (by omega) (by unfold CQ; omega)) (hP _ _ (by omega) (by omega) (by unfold CQP; omega)), hu⟩
theorem CWF.keep (h : CWF x S P) (hP : ∀ b k, x ≤ b → b < x + 75 → ¬ CQP x b k → P' b k = P b k) : CWF x S P' := by
  obtain ⟨a1, a2, a3, a4, a5⟩ := h
  refine ⟨a1, fun q hq => ?_, fun i hi => ?_, fun j hj => ?_, fun s hs => ?_⟩
  · rw [← a2 q hq]
    have hb : q.1 < 10 ∧ ¬ (q.1 = 43) := by
      have : ∀ q ∈ CRf, q.1 < 10 ∧ ¬ (q.1 = 43) := by decide
      exact this q hq
    exact hP _ _ (by omega) (by omega) (by unfold CQP; omega)
  · rw [hP _ 1 (by omega) (by omega) (by unfold CQP; omega), hP _ 2 (by omega) (by omega) (by unfold CQP; omega), hP _ 3 (by omega) (by omega) (by unfold CQP; omega), hP _ 4 (by omega) (by omega) (by unfold CQP; omega)]
    exact a3 i hi
  · rw [hP _ 0 (by omega) (by omega) (by unfold CQP; omega), hP _ 1 (by omega) (by omega) (by unfold CQP; omega)]
    exact a4 j hj
  · rw [hP _ 0 (by omega) (by omega) (by unfold CQP; omega)]
    exact a5 s hs
theorem cv2 {v : Int32} (h : cv v) : 0 ≤ v.toInt ∧ v.toInt ≤ 24 := h
theorem zw_e (hc : CTA x c P M B) {q p : Nat} : s_win (zE B) (cQ c M) (B.1 5 q) (B.1 6 q) (B.1 7 q) p (cG c M) ↔ zw B q p := by rw [hc.q, hc.g]
theorem zPut_3 {κ : Crt} {b k : Nat} : (zPut B κ).1 b k = if b = 0 ∧ k < 2 then κ k else if b = 1 ∧ k < 2 then κ (2 + k) else if b = 4 ∧ k = 0 then κ 4 else B.1 b k := rfl
theorem CTA_put {κ : Crt} (hc : CTA x c P M B) (h : cG c M' = κ) (hk : ∀ p k, p < 2 → 2 ≤ k → M' (c + 1 + p) k = M (c + 1 + p) k) : CTA x c P M' (zPut B κ) := by
  refine ⟨hc.1, fun p hp => ⟨?_, ?_, ?_, ?_⟩, ?_, ?_⟩
  · rw [zPut_0 hp, ← h, cG0 hp]
  · rw [zPut_1 hp, ← h, cG1 hp]
  · rw [zPut_o (by decide), hk p 2 hp (by decide)]; exact hc.c2 hp
  · rw [zPut_o (by decide), hk p 3 hp (by decide)]; exact hc.c3 hp
  · rw [zPut_4, ← h, cG4]
  · rw [zPut_o (by decide)]; exact hc.2.2.2
/-- a stroke on a court that is B's -/
theorem kc_strikeA {q p a : Nat} (hp : p < 2) (hq : q < zcnt B) (hst : STK S M a (B.1 5 q) (B.1 6 q) (B.1 7 q)) (ha : x + 94 ≤ a) (hc : CTA x c P M B) (ht : TXS x M B) (hg : RN3 B) (hC : CWF x S P) (hX : HSC x sc) :
    KK G sc yX1_strike cX1_strike 7 (some .boolean) 6 0 0 [.ref c, .int (nI p), .ref a] (n, S, M, L, P) (fun v μ => v = some (.int (b2 (zw B q p))) ∧ ∃ M', μ = (n, S, M', L, P) ∧ CTA x c P M' (zPut B (za B q p)) ∧ ∀ b k, ¬ CD c b k → M' b k = M b k) := by
  obtain ⟨g1, g2, g3, g4⟩ := hg
  have hq1 : 1 - p < 2 := by omega
  obtain ⟨kk, hk6, hkA, hkz⟩ := cnt_e g1
  refine KK_mono (kc_strike (E := zE B) hp hst (fun k => hX.2.1 _ _ ha) ?_ ?_ ?_ (g1.2.2.1 q (by omega)) ?_ ?_ ?_ ?_ (g4 q hq).2 (hc.rt g1 ht) hC hX) ?_
  · rw [hc.c0 hp]; exact g1.1 p hp
  · rw [hc.c0 hq1]; exact g1.1 _ hq1
  · rw [hc.c3 hp]; exact g1.2.1 p hp
  · rw [hc.c1 hp]; exact g2 p hp
  · rw [hc.c1 hq1]; exact g2 _ hq1
  · rw [hc.w]; exact g3.1
  · rw [hc.w]; exact g3.2
  · intro v μ ⟨hv, M', hμ, hG, hf⟩
    refine ⟨by rw [hv, b2_c (zw_e hc)], M', hμ, CTA_put hc (by rw [hG, hc.q, hc.h, hc.g]) (fun i k hi hk => hf _ _ ?_), hf⟩
    unfold CD
    omega
theorem rn3_put {κ : Crt} (hg : RN3 B) (h : RNG (zPut B κ)) (h2 : ∀ p, p < 2 → s_within2 0 999 (κ (2 + p))) (h4 : s_within2 0 99 (κ 4)) : RN3 (zPut B κ) := by
  refine ⟨h, fun p hp => ?_, ?_, fun q hq => ?_⟩
  · rw [zPut_1 hp]; exact h2 p hp
  · rw [zPut_4]; exact h4
  · rw [zPut_o (by decide), zPut_o (by decide)]
    exact hg.2.2.2 q (by rw [← zPut_zcnt (κ := κ)]; exact hq)
theorem rn3_sa {q p : Nat} (hg : RN3 B) (hp : p < 2) (hq : q < zcnt B) : RN3 (zPut B (za B q p)) := by
  obtain ⟨k, hk6, hkA, hkz⟩ := cnt_e hg.1
  refine rn3_put hg (rng_sa hg.1 hp (by omega)) (fun i hi => ?_) ?_
  · have hw : s_within2 0 999 (zC B (2 + i)) := by
      unfold zC
      rw [if_neg (by omega), if_pos (by omega), show 2 + i - 2 = i by omega]
      exact hg.2.1 i hi
    have hr : ∀ v : Int32, s_within2 0 999 (s_within v 0 999) := fun v => wi_rng (m := 999) (by decide)
    by_cases hz : zw B q p
    · obtain ⟨s1, s2⟩ := sa_w (hm := zH B) hz
      by_cases e : i = p
      · rw [e, show za B q p (2 + p) = _ from s1]; exact hr _
      · rw [show za B q p (2 + i) = _ from s2 (2 + i) (by omega)]; exact hw
    · obtain ⟨-, -, -, s4, s5⟩ := sa_n (hm := zH B) hz hp
      rcases two_c hi hp with rfl | rfl
      · rw [show za B q i (2 + i) = _ from s4]
        split
        · exact hr _
        · exact hr _
      · rw [show za B q p (2 + (1 - p)) = _ from s5]; exact hr _
  · by_cases hz : zw B q p
    · obtain ⟨s1, s2⟩ := sa_w (hm := zH B) hz
      rw [show za B q p 4 = _ from s2 4 (by omega)]
      exact hg.2.2.1
    · obtain ⟨s1, -⟩ := sa_n (hm := zH B) hz hp
      rw [show za B q p 4 = _ from s1]
      exact wi_rng (m := 99) (by decide)
end CA
