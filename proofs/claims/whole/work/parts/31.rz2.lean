section RZ2
variable {G : Gx} {sc : Nat → Nat → Prop} {n : Nat} {S : Nat → Nat × Nat} {M : Nat → Nat → Int32} {L : Nat → Nat → Int64} {P : Nat → Nat → Option Nat} {o : Nat}
/-- a memory like one that is known, in parts -/
theorem EQV.parts {μ' : Mem} (h : EQV sc μ' (n, S, M, L, P)) : ∃ M' L', μ' = (n, S, M', L', P) ∧ (∀ a k, ¬ sc a k → M' a k = M a k) ∧ ∀ a k, ¬ sc a k → L' a k = L a k := by
  obtain ⟨n', S', M', L', P'⟩ := μ'
  obtain ⟨h1, h2, h3, h4, h5⟩ := h
  obtain rfl : n' = n := h1
  obtain rfl : S' = S := h2
  obtain rfl : P' = P := h5
  exact ⟨M', L', rfl, h3, h4⟩
theorem EQV.mk {M' : Nat → Nat → Int32} {L' : Nat → Nat → Int64} (h1 : ∀ a k, ¬ sc a k → M' a k = M a k) (h2 : ∀ a k, ¬ sc a k → L' a k = L a k) : EQV sc (n, S, M', L', P) (n, S, M, L, P) := ⟨rfl, rfl, h1, h2, rfl⟩
theorem HX_no : HX o (fun _ _ => False) := ⟨fun _ h => h, fun _ _ _ _ h => h⟩
theorem kr_saysP {w p : Nat} {wi far number cell : Int32} {E : RuleF} (hw : w < 3) (hwi : wi = nI w) (hp : p < 2) (hR : RWF o S P) (hN : HSR o sc) (hE : RTX o M E) : KK G sc yX12_says cX12_says 6 (some .int) 60 0 0 [.ref o, .int wi, .int (nI p), .int far, .int number, .int cell] (n, S, M, L, P) (ansI (s_within (E w far (M o 11) (M (o + 5) p) (M (o + 6) p) number cell) 0 (if w = 2 then 100 else 99)) (n, S, M, L, P)) := by
  obtain ⟨r, m, hr, hm160, h4, hm, hB, cs, d0, d1, d2, hg, hd⟩ := hE
  refine KK_more (sc := fun _ _ => False) (fun _ _ h => h.elim) (fun μ' hq => ?_)
  obtain ⟨M', L', rfl, h1, h2⟩ := hq.parts
  have eo : ∀ k, k < 16 ∨ 30 < k → M' o k = M o k := fun k hk => h1 _ _ (hN.1 k hk)
  have ea : ∀ t, 0 < t → t < 19 → M' (o + t) = M (o + t) := fun t t0 t1 => funext fun k => h1 _ _ (hN.2.1 t k t0 t1)
  have eT : TB o r M' = fun i => M (o + 1) (160 * r + i) := by
    funext i
    show M' (o + 1) _ = _
    rw [ea 1 (by decide) (by decide)]
  refine KK_mono (kp_says (E := E) (cs := cs) (d0 := d0) (d1 := d1) (d2 := d2) hw hwi hp hr hm160 ((eo _ (by omega)).trans h4) (by rw [ea 2 (by decide) (by decide)]; exact hm) (by rw [eT]; exact hB) (by rw [eT]; exact hg) (hd _ _ _ _ _ _ _) hR HX_no) ?_
  intro v μ ⟨M'', L'', hv, hμ, hf, hl⟩
  rw [eo 11 (by omega), ea 5 (by decide) (by decide), ea 6 (by decide) (by decide)] at hv
  subst hμ
  refine ⟨_, EQV.mk (fun a k hz => (hf a k ?_).trans (h1 a k hz)) (fun a k hz => (hl a k ?_).trans (h2 a k hz)), hv, rfl⟩
  · rintro ⟨rfl, h16, h30⟩
    exact hz (hN.2.2 k h16 h30)
  · rintro ⟨rfl, rfl⟩
    exact hz (hN.2.2 27 (by decide) (by decide))
end RZ2
