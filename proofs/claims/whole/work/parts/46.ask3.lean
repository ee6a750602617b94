noncomputable def zgf (s d : Nat) (A : Abs) (at' : Nat) (dg : Int32) (k : Nat) : List Int32 := by
  classical
  exact if s_comes (A.1 5 k) (A.1 7 k) (A.1 0 (at' % 2)) = A.1 (20 + s) at' ∧ (¬ zw A k (at' % 2) ∨ d = 0) then zgo s d (zPut A (za A k (at' % 2))) (at' + 1) (10 * dg + nI k + 1) else []
theorem zgo_s {s d : Nat} {A : Abs} {at' : Nat} {dg : Int32} : zgo s (d + 1) A at' dg = zfl (zgf s d A at' dg) (zcnt A) 0 := rfl
theorem zgf_0 {s d : Nat} {A : Abs} {at' : Nat} {dg : Int32} {k : Nat} (h : ¬ (s_comes (A.1 5 k) (A.1 7 k) (A.1 0 (at' % 2)) = A.1 (20 + s) at' ∧ (¬ zw A k (at' % 2) ∨ d = 0))) : zgf s d A at' dg k = [] := if_neg h
theorem zgf_1 {s d : Nat} {A : Abs} {at' : Nat} {dg : Int32} {k : Nat} (h : s_comes (A.1 5 k) (A.1 7 k) (A.1 0 (at' % 2)) = A.1 (20 + s) at' ∧ (¬ zw A k (at' % 2) ∨ d = 0)) : zgf s d A at' dg k = zgo s d (zPut A (za A k (at' % 2))) (at' + 1) (10 * dg + nI k + 1) := if_pos h
theorem zfl_f {f : Nat → List Int32} {e k : Nat} {q : Int32 × Int32} : (zfl f (e + 1) k).foldl zst q = (zfl f e (k + 1)).foldl zst ((f k).foldl zst q) := by
  show (f k ++ zfl f e (k + 1)).foldl zst q = _
  rw [List.foldl_append]
theorem zbits_1 {f : Nat → Prop} {k : Nat} (h : f k) : zbits f (k + 1) = zbits f k ||| (1 <<< (nI k &&& 31)) := by
  classical
  rw [zbits, b2_t h]
theorem zbits_0 {f : Nat → Prop} {k : Nat} (h : ¬ f k) : zbits f (k + 1) = zbits f k ||| (0 <<< (nI k &&& 31)) := by
  classical
  rw [zbits, b2_f h]
section ZS
variable {o q : Nat} {M Mx M1 : Nat → Nat → Int32} {A : Abs} {v : Int32}
theorem zset_o {b k : Nat} (h : b ≠ 9 ∧ b ≠ 2) : (zSet A q v).1 b k = A.1 b k := by
  show (if q = 2 then (if b = 9 ∧ k = 0 then v else A.1 b k) else if b = 2 ∧ k = q then v else A.1 b k) = _
  split
  · rw [if_neg (by omega)]
  · rw [if_neg (by omega)]
theorem zset_q (h : q ≠ 2) {b k : Nat} : (zSet A q v).1 b k = if b = 2 ∧ k = q then v else A.1 b k := if_neg h
theorem zset_2 {b k : Nat} : (zSet A 2 v).1 b k = if b = 9 ∧ k = 0 then v else A.1 b k := rfl
theorem zset_abs (hq : q ≠ 2) (hA : rABS o M A) (hx : ∀ b k, ¬ TD o b k → ¬ (b = o + 6 ∧ k = q) → Mx b k = M b k) (h1 : M1 = up2 Mx (o + 6) q v) : rABS o M1 (zSet A q v) := by
  have hk : ∀ b k, ¬ TD o b k → ¬ (b = o + 6 ∧ k = q) → M1 b k = M b k := fun b k z1 z2 => by rw [h1, up2_n (by omega)]; exact hx b k z1 z2
  have ka : ∀ t, 0 < t → t ≠ 11 → t ≠ 12 → t ≠ 6 → M1 (o + t) = M (o + t) := fun t h0 h1 h2 h3 => funext fun k => hk _ _ (by unfold TD; omega) (by omega)
  have ko : ∀ k, ¬ (k = 31 ∨ k = 34 ∨ k = 35 ∨ k = 37 ∨ k = 39 ∨ k = 40 ∨ k = 41) → M1 o k = M o k := fun k h => hk _ _ (by unfold TD; omega) (by omega)
  obtain ⟨h1', h2', h3, h4, h5, h6, h7, h8, h9, h10, h11, h12, h13, h14, h15, h16, h17, h18, h19, h20, h21, h22⟩ := hA
  show rABSg o 0 M1 (zSet A q v)
  unfold rABSg
  rw [ka 1 (by decide) (by decide) (by decide) (by decide), ka 2 (by decide) (by decide) (by decide) (by decide), ka 3 (by decide) (by decide) (by decide) (by decide), ka 4 (by decide) (by decide) (by decide) (by decide), ka 5 (by decide) (by decide) (by decide) (by decide), ka 7 (by decide) (by decide) (by decide) (by decide), ka 8 (by decide) (by decide) (by decide) (by decide), ka 9 (by decide) (by decide) (by decide) (by decide), ka 10 (by decide) (by decide) (by decide) (by decide), ka 13 (by decide) (by decide) (by decide) (by decide), ka 14 (by decide) (by decide) (by decide) (by decide), ka 15 (by decide) (by decide) (by decide) (by decide), ka 16 (by decide) (by decide) (by decide) (by decide), ka 17 (by decide) (by decide) (by decide) (by decide), ka 18 (by decide) (by decide) (by decide) (by decide), ko 11 (by decide), ko 15 (by decide), ko 4 (by decide), ko 3 (by decide), ko 6 (by decide), ko 44 (by decide), ko 45 (by decide), ko 46 (by decide), ko 33 (by decide)]
  have e : ∀ b, b ≠ 2 → (zSet A q v).1 b = A.1 b := fun b hb => funext fun k => (zset_q hq).trans (if_neg (by omega))
  rw [e 0 (by decide), e 1 (by decide), e 3 (by decide), e 4 (by decide), e 5 (by decide), e 6 (by decide), e 7 (by decide), e 8 (by decide), e 9 (by decide), e 10 (by decide), e 11 (by decide), e 12 (by decide), e 13 (by decide), e 14 (by decide), e 15 (by decide), e 16 (by decide), e 17 (by decide), e 18 (by decide)]
  refine ⟨h1', h2', fun p hp => ?_, h4, h5, h6, h7, h8, h9, h10, h11, h12, h13, h14, h15, h16, h17, h18, h19, fun s j hs hj => by rw [e _ (by omega)]; exact h20 s j hs hj, h21, h22⟩
  rw [zset_q hq]
  split
  · rename_i z; rw [z.2, h1, up2_s]
  · rename_i z; rw [hk _ _ (by unfold TD; omega) (by omega)]; exact h3 p hp
theorem zset_abs2 (hA : rABS o M A) (hx : ∀ b k, ¬ TD o b k → ¬ (b = o ∧ k = 4) → Mx b k = M b k) (h1 : M1 = up2 Mx o 4 v) : rABS o M1 (zSet A 2 v) := by
  have hk : ∀ b k, ¬ TD o b k → ¬ (b = o ∧ k = 4) → M1 b k = M b k := fun b k z1 z2 => by rw [h1, up2_n (by omega)]; exact hx b k z1 z2
  have ka : ∀ t, 0 < t → t ≠ 11 → t ≠ 12 → M1 (o + t) = M (o + t) := fun t h0 h1 h2 => funext fun k => hk _ _ (by unfold TD; omega) (by omega)
  have ko : ∀ k, ¬ (k = 4 ∨ k = 31 ∨ k = 34 ∨ k = 35 ∨ k = 37 ∨ k = 39 ∨ k = 40 ∨ k = 41) → M1 o k = M o k := fun k h => hk _ _ (by unfold TD; omega) (by omega)
  obtain ⟨h1', h2', h3, h4, h5, h6, h7, h8, h9, h10, h11, h12, h13, h14, h15, h16, h17, h18, h19, h20, h21, h22⟩ := hA
  show rABSg o 0 M1 (zSet A 2 v)
  unfold rABSg
  rw [ka 1 (by decide) (by decide) (by decide), ka 2 (by decide) (by decide) (by decide), ka 3 (by decide) (by decide) (by decide), ka 4 (by decide) (by decide) (by decide), ka 5 (by decide) (by decide) (by decide), ka 6 (by decide) (by decide) (by decide), ka 7 (by decide) (by decide) (by decide), ka 8 (by decide) (by decide) (by decide), ka 9 (by decide) (by decide) (by decide), ka 10 (by decide) (by decide) (by decide), ka 13 (by decide) (by decide) (by decide), ka 14 (by decide) (by decide) (by decide), ka 15 (by decide) (by decide) (by decide), ka 16 (by decide) (by decide) (by decide), ka 17 (by decide) (by decide) (by decide), ka 18 (by decide) (by decide) (by decide), ko 11 (by decide), ko 15 (by decide), ko 3 (by decide), ko 6 (by decide), ko 44 (by decide), ko 45 (by decide), ko 46 (by decide), ko 33 (by decide)]
  have e : ∀ b, b ≠ 9 → (zSet A 2 v).1 b = A.1 b := fun b hb => funext fun k => zset_2.trans (if_neg (by omega))
  rw [e 0 (by decide), e 1 (by decide), e 2 (by decide), e 3 (by decide), e 4 (by decide), e 5 (by decide), e 6 (by decide), e 7 (by decide), e 8 (by decide), e 10 (by decide), e 11 (by decide), e 12 (by decide), e 13 (by decide), e 14 (by decide), e 15 (by decide), e 16 (by decide), e 17 (by decide), e 18 (by decide)]
  exact ⟨h1', h2', h3, h4, h5, h6, h7, h8, h9, by rw [h1, up2_s]; rfl, h11, h12, h13, h14, h15, h16, h17, h18, h19, fun s j hs hj => by rw [e _ (by omega)]; exact h20 s j hs hj, h21, h22⟩
theorem rng_set (hg : RNG A) (hv : q = 2 → ∃ r, r < i2n (A.1 10 0) ∧ v = nI r) : RNG (zSet A q v) := by
  obtain ⟨g1, g2, g3, g4, g5, c, hc1, hc6, hce, r, hr, hre⟩ := hg
  have e0 : ∀ b, b ≠ 9 ∧ b ≠ 2 → (zSet A q v).1 b = A.1 b := fun b hb => funext fun k => zset_o hb
  refine ⟨by rw [e0 0 (by decide)]; exact g1, by rw [e0 3 (by decide)]; exact g2, by rw [e0 7 (by decide)]; exact g3, by rw [e0 8 (by decide)]; exact g4, by rw [e0 16 (by decide), e0 18 (by decide)]; exact g5, c, hc1, hc6, by rw [e0 10 (by decide)]; exact hce, ?_⟩
  by_cases h2 : q = 2
  · subst h2
    obtain ⟨r', hr', hv'⟩ := hv rfl
    rw [hce, show i2n (nI c) = c from nI_clamp (by omega)] at hr'
    exact ⟨r', hr', hv'⟩
  · exact ⟨r, hr, by rw [zset_q h2, if_neg (by omega)]; exact hre⟩
end ZS
