section RAL
variable {o : Nat} {M M1 : Nat → Nat → Int32} {E : RuleF} {s N j q : Nat}
/-- what a memory in a rally has of the memory at its start -/
def RKEEP (o : Nat) (M M1 : Nat → Nat → Int32) : Prop := ∀ b k, ¬ RD o b k → M1 b k = M b k
theorem RKEEP.a {t : Nat} (h : RKEEP o M M1) (h0 : 0 < t) (h4 : t ≠ 4) (h5 : t ≠ 5) (h12 : t ≠ 12) : M1 (o + t) = M (o + t) := funext fun k => h _ _ (by unfold RD; omega)
theorem RKEEP.m {k : Nat} (h : RKEEP o M M1) (hk : k ≠ 11 ∧ k ≠ 31 ∧ k ≠ 34 ∧ k ≠ 35 ∧ k ≠ 37) : M1 o k = M o k := h _ _ (by unfold RD; omega)
theorem aK_e (h : j < N) (hq : M (o + 18) (40 * s + j) = nI q) (hs : q < 6) : aK o M s N j = M (o + 8) q := rq_e h hq (by omega)
theorem aN_e (h : j < N) (hq : M (o + 18) (40 * s + j) = nI q) (hs : q < 6) : aN o M s N j = M (o + 9) q := rq_e h hq (by omega)
theorem aA_e (h : j < N) (hq : M (o + 18) (40 * s + j) = nI q) (hs : q < 6) : aA o M s N j = M (o + 10) q := rq_e h hq (by omega)
theorem aQ_e {p : Nat} (h : p < 2) : aQ o M p = M (o + 6) p := t2_e h
theorem aH_e {p : Nat} (h : p < 2) : aH o M p = M (o + 7) p := t2_e h
theorem ral_slip (hk : RKEEP o M M1) (hs : rGet o M1 = a_st o M E s N j) (hj : j < N) (hq : M (o + 18) (40 * s + j) = nI q) (hq6 : q < 6) :
    s_slips E (M1 o 11) (M1 (o + 5) (j % 2)) (M1 (o + 6) (j % 2)) (M1 (o + 9) q) (M1 (o + 4) (j % 2)) (s_comes (M1 (o + 8) q) (M1 (o + 10) q) (M1 (o + 4) (j % 2))) = a_slip o M E s N j := by
  have hp : j % 2 < 2 := by omega
  unfold a_slip sr_slip sr_to s_to
  rw [show sr_st E (aQ o M) (aH o M) (aK o M s N) (aN o M s N) (aA o M s N) (rGet o M) j = rGet o M1 from hs.symm, rg0 hp, rg1 hp, rg4, aK_e hj hq hq6, aN_e hj hq hq6, aA_e hj hq hq6, aQ_e hp, hk.a (t := 6) (by decide) (by decide) (by decide) (by decide), hk.a (t := 8) (by decide) (by decide) (by decide) (by decide), hk.a (t := 9) (by decide) (by decide) (by decide) (by decide), hk.a (t := 10) (by decide) (by decide) (by decide) (by decide)]
theorem ral_w (hk : RKEEP o M M1) (hs : rGet o M1 = a_st o M E s N j) (hj : j < N) (hq : M (o + 18) (40 * s + j) = nI q) (hq6 : q < 6) :
    s_win E (M1 (o + 6)) (M1 (o + 8) q) (M1 (o + 9) q) (M1 (o + 10) q) (j % 2) (rGet o M1) ↔ a_w o M E s N j := by
  have hp : j % 2 < 2 := by omega
  unfold a_w sr_w
  rw [show sr_st E (aQ o M) (aH o M) (aK o M s N) (aN o M s N) (aA o M s N) (rGet o M) j = rGet o M1 from hs.symm, aK_e hj hq hq6, aN_e hj hq hq6, aA_e hj hq hq6, sw_t2 hp, hk.a (t := 6) (by decide) (by decide) (by decide) (by decide), hk.a (t := 8) (by decide) (by decide) (by decide) (by decide), hk.a (t := 9) (by decide) (by decide) (by decide) (by decide), hk.a (t := 10) (by decide) (by decide) (by decide) (by decide)]
theorem ral_to (hk : RKEEP o M M1) (hs : rGet o M1 = a_st o M E s N j) (hj : j < N) (hq : M (o + 18) (40 * s + j) = nI q) (hq6 : q < 6) : s_to (M1 (o + 8) q) (M1 (o + 10) q) (j % 2) (rGet o M1) = a_to o M E s N j := by
  unfold a_to sr_to
  rw [show sr_st E (aQ o M) (aH o M) (aK o M s N) (aN o M s N) (aA o M s N) (rGet o M) j = rGet o M1 from hs.symm, aK_e hj hq hq6, aA_e hj hq hq6, hk.a (t := 8) (by decide) (by decide) (by decide) (by decide), hk.a (t := 10) (by decide) (by decide) (by decide) (by decide)]
theorem ral_st {M2 : Nat → Nat → Int32} {ct : Int32} (hk : RKEEP o M M1) (hs : rGet o M1 = a_st o M E s N j) (hj : j < N) (hq : M (o + 18) (40 * s + j) = nI q) (hq6 : q < 6)
    (h2 : M2 = up2 (rPut o M1 (s_after E (M1 (o + 6)) (M1 (o + 7)) (M1 (o + 8) q) (M1 (o + 9) q) (M1 (o + 10) q) (j % 2) (rGet o M1))) o 31 ct) : rGet o M2 = a_st o M E s N (j + 1) := by
  have hp : j % 2 < 2 := by omega
  have e : rGet o M2 = s_after E (M1 (o + 6)) (M1 (o + 7)) (M1 (o + 8) q) (M1 (o + 9) q) (M1 (o + 10) q) (j % 2) (rGet o M1) := by
    rw [← rGet_put (o := o) (M := M1) (κ := s_after E (M1 (o + 6)) (M1 (o + 7)) (M1 (o + 8) q) (M1 (o + 9) q) (M1 (o + 10) q) (j % 2) (rGet o M1)) (fun i hi => by rw [sa_hi hp hi, rGet_hi hi]), h2]
    exact rGet_cong (fun i _ => up2_n (by omega)) (fun i _ => up2_n (by omega)) (up2_n (by omega))
  rw [e]
  unfold a_st sr_st
  rw [show sr_st E (aQ o M) (aH o M) (aK o M s N) (aN o M s N) (aA o M s N) (rGet o M) j = rGet o M1 from hs.symm, aK_e hj hq hq6, aN_e hj hq hq6, aA_e hj hq hq6, sa_t2 hp, hk.a (t := 6) (by decide) (by decide) (by decide) (by decide), hk.a (t := 7) (by decide) (by decide) (by decide) (by decide), hk.a (t := 8) (by decide) (by decide) (by decide) (by decide), hk.a (t := 9) (by decide) (by decide) (by decide) (by decide), hk.a (t := 10) (by decide) (by decide) (by decide) (by decide)]
/-- the court's cells stay cells -/
theorem sa_cv {qk hm : Nat → Int32} {kind number aim : Int32} {p : Nat} {κ : Crt} (hp : p < 2) (h0 : cv (κ 0)) (h1 : cv (κ 1)) (hh : hm p = -1 ∨ cv (hm p)) (ha : cv aim) : cv (s_after E qk hm kind number aim p κ 0) ∧ cv (s_after E qk hm kind number aim p κ 1) := by
  have hb : ∀ i, i < 2 → cv (s_after E qk hm kind number aim p κ i) := by
    intro i hi
    have hκ : ∀ i, i < 2 → cv (κ i) := lt2 h0 h1
    by_cases hw : s_win E qk kind number aim p κ
    · rw [(sa_w hw).2 i (by omega)]; exact hκ i hi
    · obtain ⟨-, e2, e3, -⟩ := sa_n (hm := hm) hw hp
      rcases two_c hi hp with rfl | rfl
      · rw [e2]
        split
        · rename_i hg
          rcases hh with q | q
          · exact absurd q hg.1
          · exact q
        · exact hκ _ hi
      · rw [e3]; exact cv_comes ha
  exact ⟨hb 0 (by decide), hb 1 (by decide)⟩
theorem ral_cv (hc : CVR o M) (hr : RLY o M s N) : ∀ j, j ≤ N → cv (a_st o M E s N j 0) ∧ cv (a_st o M E s N j 1) := by
  intro j
  induction j with
  | zero =>
    intro _
    show cv (rGet o M 0) ∧ cv (rGet o M 1)
    rw [rg0 (by decide), rg0 (by decide)]
    exact ⟨hc.1 0 (by decide), hc.1 1 (by decide)⟩
  | succ j ih =>
    intro hj
    obtain ⟨i0, i1⟩ := ih (by omega)
    obtain ⟨q, hq6, hq⟩ := hr.2.2.2 j (by omega)
    have hp : j % 2 < 2 := by omega
    unfold a_st sr_st
    refine sa_cv hp i0 i1 ?_ ?_
    · rw [aH_e hp]; exact hc.2.1 _ hp
    · rw [aA_e (by omega) hq hq6]; exact hc.2.2 q hq6
theorem ral_cto (hc : CVR o M) (hr : RLY o M s N) (hj : j < N) : cv (a_to o M E s N j) := by
  obtain ⟨q, hq6, hq⟩ := hr.2.2.2 j hj
  unfold a_to sr_to s_to
  rw [aA_e hj hq hq6]
  exact cv_comes (hc.2.2 q hq6)
theorem i2n_nI {c : Nat} (h : c < 25) : i2n (nI c) = c := nI_clamp (by omega)
theorem way_s1 (hw : ¬ a_w o M E s N j) (hy : a_way o M E s N j = -1) {f t : Nat} (hf : a_st o M E s N j (1 - j % 2) = nI f) (ht : a_to o M E s N j = nI t) (hf5 : f < 25) (ht5 : t < 25) (ho : s_over f t (a_st o M E s N j (j % 2))) : a_way o M E s N (j + 1) = nI j := by
  show sr_way E (aQ o M) (aH o M) (aK o M s N) (aN o M s N) (aA o M s N) (rGet o M) (j + 1) = _
  unfold sr_way
  refine if_pos ⟨hw, hy, ?_⟩
  rw [show sr_st E (aQ o M) (aH o M) (aK o M s N) (aN o M s N) (aA o M s N) (rGet o M) j (1 - j % 2) = nI f from hf, show sr_to E (aQ o M) (aH o M) (aK o M s N) (aN o M s N) (aA o M s N) (rGet o M) j = nI t from ht, i2n_nI hf5, i2n_nI ht5]
  exact ho
theorem way_s0 (h : a_w o M E s N j ∨ ¬ a_way o M E s N j = -1 ∨ ∃ f t, a_st o M E s N j (1 - j % 2) = nI f ∧ a_to o M E s N j = nI t ∧ f < 25 ∧ t < 25 ∧ ¬ s_over f t (a_st o M E s N j (j % 2))) : a_way o M E s N (j + 1) = a_way o M E s N j := by
  show sr_way E (aQ o M) (aH o M) (aK o M s N) (aN o M s N) (aA o M s N) (rGet o M) (j + 1) = sr_way E (aQ o M) (aH o M) (aK o M s N) (aN o M s N) (aA o M s N) (rGet o M) j
  rw [sr_way]
  refine if_neg fun z => ?_
  rcases h with h | h | ⟨f, t, hf, ht, hf5, ht5, h⟩
  · exact z.1 h
  · exact h z.2.1
  · have z3 := z.2.2
    rw [show sr_st E (aQ o M) (aH o M) (aK o M s N) (aN o M s N) (aA o M s N) (rGet o M) j (1 - j % 2) = nI f from hf, show sr_to E (aQ o M) (aH o M) (aK o M s N) (aN o M s N) (aA o M s N) (rGet o M) j = nI t from ht, i2n_nI hf5, i2n_nI ht5] at z3
    exact h z3
theorem fin_t {k : Nat} (h : a_w o M E s N j) : a_fin o M E s N (k + 1) j = (j + 1, true) := if_pos h
theorem fin_f {k : Nat} (h : ¬ a_w o M E s N j) : a_fin o M E s N (k + 1) j = a_fin o M E s N k (j + 1) := if_neg h
theorem nI_nm1 {p : Nat} (h : p < 1000) : ¬ nI p = -1 := by
  intro e
  have e2 := congrArg Int32.toInt e
  rw [nI_toInt (by omega)] at e2
  have : (-1 : Int32).toInt = -1 := by decide
  omega
end RAL
