section RAL
variable {o : Nat} {M M1 : Nat → Nat → Int32} {E : RuleF} {s N j q : Nat}
/-- what a memory in a rally has of the memory at its start -/
def RKEEP (o : Nat) (M M1 : Nat → Nat → Int32) : Prop := ∀ b k, ¬ RD o b k → M1 b k = M b k
theorem RKEEP.a {t : Nat} (h : RKEEP o M M1) (h0 : 0 < t) (h4 : t ≠ 4) (h5 : t ≠ 5) (h12 : t ≠ 12) : M1 (o + t) = M (o + t) := funext fun k => h _ _ (by unfold RD; omega)
theorem RKEEP.m {k : Nat} (h : RKEEP o M M1) (hk : k ≠ 11 ∧ k ≠ 31 ∧ k ≠ 34 ∧ k ≠ 35 ∧ k ≠ 37) : M1 o k = M o k := h _ _ (by unfold RD; omega)
theorem aK_e (h : j < N) (hq : M (o + 18) (40 * s + j) = nI q) (hs : q < 6) : aK o M s N j = M (o + 8) q := rq_e h hq (by omega)
theorem aN_e (h : j < N) (hq : M (o + 18) (40 * s + j) = nI q) (hs : q < 6) : aN o M s N j = M (o + 9) q := rq_e h hq (by omega)
theorem aA_e (h : j < N) (hq : M (o + 18) (40 * s + j) = nI q) (hs : q < 6) : aA o M s N j = M (o + 10) q := rq_e h hq (by omega)
theorem aQ_e {p : Nat} (h : p < 2) : aQ o M p = M (o + 6) p := t2_e h
theorem aH_e {p : Nat} (h : p < 2) : aH o M p = M (o + 7) p := t2_e h
theorem ral_slip (hk : RKEEP o M M1) (hs : rGet o M1 = a_st o M E s N j) (hj : j < N) (hq : M (o + 18) (40 * s + j) = nI q) (hq6 : q < 6) :
    s_slips E (M1 o 11) (M1 (o + 5) (j % 2)) (M1 (o + 6) (j % 2)) (M1 (o + 9) q) (M1 (o + 4) (j % 2)) (s_comes (M1 (o + 8) q) (M1 (o + 10) q) (M1 (o + 4) (j % 2))) = a_slip o M E s N j := by
  have hp : j % 2 < 2 := by omega
  unfold a_slip sr_slip sr_to s_to
  rw [show sr_st E (aQ o M) (aH o M) (aK o M s N) (aN o M s N) (aA o M s N) (rGet o M) j = rGet o M1 from hs.symm, rg0 hp, rg1 hp, rg4, aK_e hj hq hq6, aN_e hj hq hq6, aA_e hj hq hq6, aQ_e hp, hk.a (t := 6) (by decide) (by decide) (by decide) (by decide), hk.a (t := 8) (by decide) (by decide) (by decide) (by decide), hk.a (t := 9) (by decide) (by decide) (by decide) (by decide), hk.a (t := 10) (by decide) (by decide) (by decide) (by decide)]
theorem ral_w (hk : RKEEP o M M1) (hs : rGet o M1 = a_st o M E s N j) (hj : j < N) (hq : M (o + 18) (40 * s + j) = nI q) (hq6 : q < 6) :
    s_win E (M1 (o + 6)) (M1 (o + 8) q) (M1 (o + 9) q) (M1 (o + 10) q) (j % 2) (rGet o M1) ↔ a_w o M E s N j := by
  have hp : j % 2 < 2 := by omega
  unfold a_w sr_w
  rw [show sr_st E (aQ o M) (aH o M) (aK o M s N) (aN o M s N) (aA o M s N) (rGet o M) j = rGet o M1 from hs.symm, aK_e hj hq hq6, aN_e hj hq hq6, aA_e hj hq hq6, sw_t2 hp, hk.a (t := 6) (by decide) (by decide) (by decide) (by decide), hk.a (t := 8) (by decide) (by decide) (by decide) (by decide), hk.a (t := 9) (by decide) (by decide) (by decide) (by decide), hk.a (t := 10) (by decide) (by decide) (by decide) (by decide)]
theorem ral_to (hk : RKEEP o M M1) (hs : rGet o M1 = a_st o M E s N j) (hj : j < N) (hq : M (o + 18) (40 * s + j) = nI q) (hq6 : q < 6) : s_to (M1 (o + 8) q) (M1 (o + 10) q) (j % 2) (rGet o M1) = a_to o M E s N j := by
  unfold a_to sr_to
  rw [show sr_st E (aQ o M) (aH o M) (aK o M s N) (aN o M s N) (aA o M s N) (rGet o M) j = rGet o M1 from hs.symm, aK_e hj hq hq6, aA_e hj hq hq6, hk.a (t := 8) (by decide) (by decide) (by decide) (by decide), hk.a (t := 10) (by decide) (by decide) (by decide) (by decide)]
theorem ral_st {M2 : Nat → Nat → Int32} {ct : Int32} (hk : RKEEP o M M1) (hs : rGet o M1 = a_st o M E s N j) (hj : j < N) (hq : M (o + 18) (40 * s + j) = nI q) (hq6 : q < 6)
    (h2 : M2 = up2 (rPut o M1 (s_after E (M1 (o + 6)) (M1 (o + 7)) (M1 (o + 8) q) (M1 (o + 9) q) (M1 (o + 10) q) (j % 2) (rGet o M1))) o 31 ct) : rGet o M2 = a_st o M E s N (j + 1) := by
  have hp : j % 2 < 2 := by omega
  have e : rGet o M2 = s_after E (M1 (o + 6)) (M1 (o + 7)) (M1 (o + 8) q) (M1 (o + 9) q) (M1 (o + 10) q) (j % 2) (rGet o M1) := by
    rw [← rGet_put (o := o) (M := M1) (κ := s_after E (M1 (o + 6)) (M1 (o + 7)) (M1 (o + 8) q) (M1 (o + 9) q) (M1 (o + 10) q) (j % 2) (rGet o M1)) (fun i hi => by rw [sa_hi hp hi, rGet_hi hi]), h2]
    exact rGet_cong (fun i _ => up2_n (by omega)) (fun i _ => up2_n (by omega)) (up2_n (by omega))
  rw [e]
  unfold a_st sr_st
  rw [show sr_st E (aQ o M) (aH o M) (aK o M s N) (aN o M s N) (aA o M s N) (rGet o M) j = rGet o M1 from hs.symm, aK_e hj hq hq6, aN_e hj hq hq6, aA_e hj hq hq6, sa_t2 hp, hk.a (t := 6) (by decide) (by decide) (by decide) (by decide), hk.a (t := 7) (by decide) (by decide) (by decide) (by decide), hk.a (t := 8) (by decide) (by decide) (by decide) (by decide), hk.a (t := 9) (by decide) (by decide) (by decide) (by decide), hk.a (t := 10) (by decide) (by decide) (by decide) (by decide)]
/-- the court's cells stay cells -/
theorem sa_cv {qk hm : Nat → Int32} {kind number aim : Int32} {p : Nat} {κ : Crt} (hp : p < 2) (h0 : cv (κ 0)) (h1 : cv (κ 1)) (hh : hm p = -1 ∨ cv (hm p)) (ha : cv aim) : cv (s_after E qk hm kind number aim p κ 0) ∧ cv (s_after E qk hm kind number aim p κ 1) := by
  have hb : ∀ i, i < 2 → cv (s_after E qk hm kind number aim p κ i) := by
    intro i hi
    have hκ : ∀ i, i < 2 → cv (κ i) := lt2 h0 h1
    by_cases hw : s_win E qk kind number aim p κ
    · rw [(sa_w hw).2 i (by omega)]; exact hκ i hi
    · obtain ⟨-, e2, e3, -⟩ := sa_n (hm := hm) hw hp
      rcases two_c hi hp with rfl | rfl
      · rw [e2]
        split
        · rename_i hg
          rcases hh with q | q
          · exact absurd q hg.1
          · exact q
        · exact hκ _ hi
      · rw [e3]; exact cv_comes ha
  exact ⟨hb 0 (by decide), hb 1 (by decide)⟩
theorem ral_cv (hc : CVR o M) (hr : RLY o M s N) : ∀ j, j ≤ N → cv (a_st o M E s N j 0) ∧ cv (a_st o M E s N j 1) := by
  intro j
  induction j with
  | zero =>
    intro _
    show cv (rGet o M 0) ∧ cv (rGet o M 1)
    rw [rg0 (by decide), rg0 (by decide)]
    exact ⟨hc.1 0 (by decide), hc.1 1 (by decide)⟩
  | succ j ih =>
    intro hj
    obtain ⟨i0, i1⟩ := ih (by omega)
    obtain ⟨q, hq6, hq⟩ := hr.2.2.2 j (by omega)
    have hp : j % 2 < 2 := by omega
    unfold a_st sr_st
    refine sa_cv hp i0 i1 ?_ ?_
    · rw [aH_e hp]; exact hc.2.1 _ hp
    · rw [aA_e (by omega) hq hq6]; exact hc.2.2 q hq6
theorem ral_cto (hc : CVR o M) (hr : RLY o M s N) (hj : j < N) : cv (a_to o M E s N j) := by
  obtain ⟨q, hq6, hq⟩ := hr.2.2.2 j hj
  unfold a_to sr_to s_to
  rw [aA_e hj hq hq6]
  exact cv_comes (hc.2.2 q hq6)
theorem i2n_nI {c : Nat} (h : c < 25) : i2n (nI c) = c := nI_clamp (by omega)
theorem way_s1 (hw : ¬ a_w o M E s N j) (hy : a_way o M E s N j = -1) {f t : Nat} (hf : a_st o M E s N j (1 - j % 2) = nI f) (ht : a_to o M E s N j = nI t) (hf5 : f < 25) (ht5 : t < 25) (ho : s_over f t (a_st o M E s N j (j % 2))) : a_way o M E s N (j + 1) = nI j := by
  show sr_way E (aQ o M) (aH o M) (aK o M s N) (aN o M s N) (aA o M s N) (rGet o M) (j + 1) = _
  unfold sr_way
  refine if_pos ⟨hw, hy, ?_⟩
  rw [show sr_st E (aQ o M) (aH o M) (aK o M s N) (aN o M s N) (aA o M s N) (rGet o M) j (1 - j % 2) = nI f from hf, show sr_to E (aQ o M) (aH o M) (aK o M s N) (aN o M s N) (aA o M s N) (rGet o M) j = nI t from ht, i2n_nI hf5, i2n_nI ht5]
  exact ho
theorem way_s0 (h : a_w o M E s N j ∨ ¬ a_way o M E s N j = -1 ∨ ∃ f t, a_st o M E s N j (1 - j % 2) = nI f ∧ a_to o M E s N j = nI t ∧ f < 25 ∧ t < 25 ∧ ¬ s_over f t (a_st o M E s N j (j % 2))) : a_way o M E s N (j + 1) = a_way o M E s N j := by
  show sr_way E (aQ o M) (aH o M) (aK o M s N) (aN o M s N) (aA o M s N) (rGet o M) (j + 1) = sr_way E (aQ o M) (aH o M) (aK o M s N) (aN o M s N) (aA o M s N) (rGet o M) j
  rw [sr_way]
  refine if_neg fun z => ?_
  rcases h with h | h | ⟨f, t, hf, ht, hf5, ht5, h⟩
  · exact z.1 h
  · exact h z.2.1
  · have z3 := z.2.2
    rw [show sr_st E (aQ o M) (aH o M) (aK o M s N) (aN o M s N) (aA o M s N) (rGet o M) j (1 - j % 2) = nI f from hf, show sr_to E (aQ o M) (aH o M) (aK o M s N) (aN o M s N) (aA o M s N) (rGet o M) j = nI t from ht, i2n_nI hf5, i2n_nI ht5] at z3
    exact h z3
theorem fin_t {k : Nat} (h : a_w o M E s N j) : a_fin o M E s N (k + 1) j = (j + 1, true) := if_pos h
theorem fin_f {k : Nat} (h : ¬ a_w o M E s N j) : a_fin o M E s N (k + 1) j = a_fin o M E s N k (j + 1) := if_neg h
theorem nI_nm1 {p : Nat} (h : p < 1000) : ¬ nI p = -1 := by
  intro e
  have e2 := congrArg Int32.toInt e
  rw [nI_toInt (by omega)] at e2
  have : (-1 : Int32).toInt = -1 := by decide
  omega
end RAL
/-! ===== refusals, and a rally's answer ===== -/
noncomputable def s_rb (th : Nat → Int32) (sz : Nat → Int32) (im : Nat → Nat → Int32) (cnt : Int32) (s : Int32) : Int32 := by
  classical
  exact if ¬ (0 ≤ s.toInt ∧ s.toInt ≤ 3) then -2 else if th (i2n s) = 0 then -11 else if ∀ j, j < i2n (sz (i2n s)) → 0 ≤ (im (i2n s) j).toInt ∧ (im (i2n s) j).toInt < cnt.toInt then 0 else -2
def SHI (o : Nat) (M : Nat → Nat → Int32) : Prop := (∀ s, s < 4 → M (o + 15) s = 0 ∨ (M (o + 15) s = 1 ∧ ∃ N, N ≤ 40 ∧ M (o + 17) s = nI N)) ∧ ∃ c, c ≤ 6 ∧ M o 15 = nI c
noncomputable abbrev r_rb (o : Nat) (M : Nat → Nat → Int32) (s : Int32) : Int32 := s_rb (M (o + 15)) (M (o + 17)) (fun s j => M (o + 18) (40 * s + j)) (M o 15) s
theorem rb_1 {th sz im cnt} {s : Int32} (h : ¬ (0 ≤ s.toInt ∧ s.toInt ≤ 3)) : s_rb th sz im cnt s = -2 := if_pos h
theorem rb_2 {th sz im cnt} {s : Nat} (hs : s < 4) (h : th s = 0) : s_rb th sz im cnt (nI s) = -11 := by
  unfold s_rb
  rw [if_neg (fun z => z (by rw [nI_toInt (by omega)]; omega)), show i2n (nI s) = s from nI_clamp (by omega), if_pos h]
theorem rb_3 {th sz im cnt} {s N : Nat} (hs : s < 4) (h : ¬ th s = 0) (hN : sz s = nI N) (hN4 : N ≤ 40) (hv : ∀ j, j < N → 0 ≤ (im s j).toInt ∧ (im s j).toInt < cnt.toInt) : s_rb th sz im cnt (nI s) = 0 := by
  unfold s_rb
  rw [if_neg (fun z => z (by rw [nI_toInt (by omega)]; omega)), show i2n (nI s) = s from nI_clamp (by omega), if_neg h, hN, show i2n (nI N) = N from nI_clamp (by omega), if_pos hv]
theorem rb_4 {th sz im cnt} {s N j : Nat} (hs : s < 4) (h : ¬ th s = 0) (hN : sz s = nI N) (hN4 : N ≤ 40) (hj : j < N) (hv : ¬ (0 ≤ (im s j).toInt ∧ (im s j).toInt < cnt.toInt)) : s_rb th sz im cnt (nI s) = -2 := by
  unfold s_rb
  rw [if_neg (fun z => z (by rw [nI_toInt (by omega)]; omega)), show i2n (nI s) = s from nI_clamp (by omega), if_neg h, hN, show i2n (nI N) = N from nI_clamp (by omega), if_neg (fun z => hv (z j hj))]
theorem rb_0 {th sz im cnt} {s : Int32} (h : s_rb th sz im cnt s = 0) : ∃ k, k < 4 ∧ s = nI k ∧ ¬ th k = 0 ∧ ∀ j, j < i2n (sz k) → 0 ≤ (im k j).toInt ∧ (im k j).toInt < cnt.toInt := by
  unfold s_rb at h
  by_cases h1 : ¬ (0 ≤ s.toInt ∧ s.toInt ≤ 3)
  · rw [if_pos h1] at h; exact absurd h (by decide)
  · rw [if_neg h1] at h
    have h2 : 0 ≤ s.toInt ∧ s.toInt ≤ 3 := Classical.not_not.mp h1
    obtain ⟨k, hk, rfl⟩ : ∃ k, k < 4 ∧ s = nI k := ⟨s.toInt.toNat, by omega, by rw [i_eq, nI_toInt (by omega)]; omega⟩
    rw [show i2n (nI k) = k from nI_clamp (by omega)] at h
    refine ⟨k, hk, rfl, ?_⟩
    by_cases h3 : th k = 0
    · rw [if_pos h3] at h; exact absurd h (by decide)
    · rw [if_neg h3] at h
      refine ⟨h3, ?_⟩
      by_cases h4 : ∀ j, j < i2n (sz k) → 0 ≤ (im k j).toInt ∧ (im k j).toInt < cnt.toInt
      · exact h4
      · rw [if_neg h4] at h; exact absurd h (by decide)
theorem rb_rly {o : Nat} {M : Nat → Nat → Int32} {s : Int32} (hS : SHI o M) (h : r_rb o M s = 0) : ∃ k N, s = nI k ∧ RLY o M k N := by
  obtain ⟨k, hk, e, h1, h2⟩ := rb_0 h
  obtain ⟨hs, c, hc, ec⟩ := hS
  rcases hs k hk with q | ⟨-, N, hN, eN⟩
  · exact absurd q h1
  · refine ⟨k, N, e, hk, hN, eN, fun j hj => ?_⟩
    obtain ⟨z1, z2⟩ := h2 j (by rw [eN, show i2n (nI N) = N from nI_clamp (by omega)]; exact hj)
    rw [ec, nI_toInt (by omega)] at z2
    refine ⟨(M (o + 18) (40 * k + j)).toInt.toNat, by omega, ?_⟩
    rw [i_eq, nI_toInt (by omega)]
    omega
theorem cm1 {c : Nat} (h : c ≤ 1000) : (nI c - 1).toInt = (c : Int) - 1 := by
  obtain ⟨k, h1, h2, h3⟩ := i_sub (nI c) 1
  rw [nI_toInt (by omega), show (1 : Int32).toInt = 1 from by decide] at h1
  omega
theorem n_of {s : Int32} {m : Nat} (hm : m < 1000) (h : 0 ≤ s.toInt ∧ s.toInt ≤ m) : ∃ k, k ≤ m ∧ s = nI k := ⟨s.toInt.toNat, by omega, by rw [i_eq, nI_toInt (by omega)]; omega⟩
/-- a rally's answers, by what is asked -/
def s_what (r : Nat × Bool) (κ : Crt) (w : Nat) : Int32 := if w = 0 then sr_wins r else if w = 1 then nI r.1 else if w < 4 then κ w else if w < 6 then κ (w - 4) else κ 4
/-- what a question may leave changed in the reference -/
def TD (o b k : Nat) : Prop := b = o + 11 ∨ b = o + 12 ∨ (b = o ∧ (k = 31 ∨ k = 34 ∨ k = 35 ∨ k = 37 ∨ k = 39 ∨ k = 40 ∨ k = 41))
section AC
variable {o : Nat} {M M1 : Nat → Nat → Int32} {E : RuleF} {s N : Nat}
theorem a_cong (h : ∀ t, t = 4 ∨ t = 5 ∨ t = 6 ∨ t = 7 ∨ t = 8 ∨ t = 9 ∨ t = 10 ∨ t = 18 → M1 (o + t) = M (o + t)) (hw : M1 o 11 = M o 11) : aQ o M1 = aQ o M ∧ aH o M1 = aH o M ∧ aK o M1 s N = aK o M s N ∧ aN o M1 s N = aN o M s N ∧ aA o M1 s N = aA o M s N ∧ rGet o M1 = rGet o M := by
  refine ⟨?_, ?_, ?_, ?_, ?_, ?_⟩
  · unfold aQ; rw [h 6 (by omega)]
  · unfold aH; rw [h 7 (by omega)]
  · unfold aK rrow; rw [h 8 (by omega), h 18 (by omega)]
  · unfold aN rrow; rw [h 9 (by omega), h 18 (by omega)]
  · unfold aA rrow; rw [h 10 (by omega), h 18 (by omega)]
  · exact rGet_cong (fun j _ => by rw [h 4 (by omega)]) (fun j _ => by rw [h 5 (by omega)]) hw
theorem laid_a {a : Nat} (h : LAID o a M M1) : ∀ t, t = 4 ∨ t = 5 ∨ t = 6 ∨ t = 7 ∨ t = 8 ∨ t = 9 ∨ t = 10 ∨ t = 18 → M1 (o + t) = M (o + t) := fun t ht => funext fun k => h.2.2.2.2 _ _ (by omega) (by omega)
theorem laid_k {a t : Nat} (h : LAID o a M M1) (h0 : 0 < t) (h11 : t ≠ 11) : M1 (o + t) = M (o + t) := funext fun k => h.2.2.2.2 _ _ (by omega) (by omega)
/-- laid aside, a rally, taken back: as it was, but for what a question may change -/
theorem lrt {M2 M3 : Nat → Nat → Int32} {L L2 : Nat → Nat → Int64} {j : Nat} {w : Int32} (hl : LAID o 0 M M1) (hi : INVR o M1 E s N M2 L L2 j w) (ht : TOOK o 0 M2 M3) (h33 : M o 33 = nI 0) : ∀ b k, ¬ TD o b k → M3 b k = M b k := by
  intro b k hn
  obtain ⟨l1, l2, l3, l4, l5⟩ := hl
  obtain ⟨t1, t2, t3, t4, t5⟩ := ht
  have i1 := hi.1
  have r11 : ∀ j, M2 (o + 11) j = M1 (o + 11) j := fun j => i1 _ _ (by unfold RD; omega)
  unfold TD at hn
  by_cases h4 : b = o + 4 ∧ k < 2
  · obtain ⟨rfl, hk⟩ := h4
    rw [t1 k hk, r11, l1 k hk]
  · by_cases h5 : b = o + 5 ∧ k < 2
    · obtain ⟨rfl, hk⟩ := h5
      rw [t2 k hk, r11, l2 k hk]
    · by_cases h6 : b = o ∧ k = 11
      · obtain ⟨rfl, rfl⟩ := h6
        rw [t3, r11, l3]
      · by_cases h7 : b = o ∧ k = 33
        · obtain ⟨rfl, rfl⟩ := h7
          rw [t4, h33]
        · rw [t5 b k h4 h5 (by omega), i1 b k (by unfold RD; omega), l5 b k (by omega) h7]
theorem lr33 {M2 : Nat → Nat → Int32} {L L2 : Nat → Nat → Int64} {j : Nat} {w : Int32} (hl : LAID o 0 M M1) (hi : INVR o M1 E s N M2 L L2 j w) : M2 o 33 = nI (0 + 5) := (hi.1 _ _ (by unfold RD; omega)).trans hl.2.2.2.1
end AC
