section RW1
variable {G : Gx} {sc : Nat → Nat → Prop} {n : Nat} {S : Nat → Nat × Nat} {M : Nat → Nat → Int32} {L : Nat → Nat → Int64} {P : Nat → Nat → Option Nat} {o : Nat} {r m : Nat} {b : Nat → Int32} {nm : Nms}

set_option maxHeartbeats 4000000 in
set_option maxRecDepth 100000 in
theorem kp_opens0 {f i : Nat} (hf : f = 0) (hp : PST o r m b nm f i M L) (hR : RWF o S P) (hX : HX o sc) : KK G sc yX12_opens cX12_opens 1 (some .boolean) 3 0 0 [.ref o] (n, S, M, L, P) (fun v μ => v = some (.int 0) ∧ μ = (n, S, up2 (up2 M o 29 1) o 30 (M o 26), L, P)) := by
  refine KK_of2 [(0, .ref o)] (by decide +kernel) (Nat.le_of_ble_eq_true rfl) rfl ?_
  refine JJ_aload_n dX12_opens_0 rfl rfl ?_
  refine JJ_geti (v := nI (5 - f)) (cis := [12]) (k := 28) fa_X12_168 (by decide) hR.1 rfl (hX.1 28) hp.2.2.2.2.1 dX12_opens_1 ?_
  refine JJ_iconst (v := 5) dX12_opens_4 rfl ?_
  refine JJ_icmp_ne (tgt := 14) dX12_opens_5 (by decide) (fun c1 => absurd (by rw [hf]; rfl) c1) (fun _ => ?_)
  refine JJ_aload_n dX12_opens_8 rfl rfl ?_
  refine JJ_callV (rest := []) hR.1 rfl rfl (kp_fail0 hp.2.2.2.1 hR hX) (by decide) mi_X12_fail lk_X12_171 rfl (Nat.le_of_ble_eq_true rfl) rfl rfl dX12_opens_9 ?_
  intro v2 μ3 h4
  obtain ⟨rfl, rfl⟩ := h4
  refine JJ_r0 ?_
  refine JJ_iconst (v := 0) dX12_opens_12 rfl ?_
  refine JJ_zret dX12_opens_13 rfl (Or.inl rfl) ?_
  exact ⟨rfl, rfl⟩
set_option maxHeartbeats 4000000 in
set_option maxRecDepth 100000 in
theorem kp_opens {f i : Nat} (hf : f + 1 ≤ 5) (hp : PST o r m b nm (f + 1) i M L) (hB : ∀ i, i < m → 0 ≤ (b i).toInt) (he : skB b m i < m ∧ i < (tok b m i).2.2.2 ∧ (tok b m i).2.2.2 ≤ m) (h24 : M o 24 = nI (tok b m i).2.2.2) (hR : RWF o S P) (hX : HX o sc) : KK G sc yX12_opens cX12_opens 1 (some .boolean) 3 0 0 [.ref o] (n, S, M, L, P) (fun v μ => v = some (.int 1) ∧ ∃ M' L', μ = (n, S, M', L', P) ∧ PST o r m b nm f (tok b m i).2.2.2 M' L' ∧ (∀ b k, ¬ PD o b k → M' b k = M b k) ∧ ∀ b k, ¬ (b = o ∧ k = 27) → L' b k = L b k) := by
  refine KK_of2 [(0, .ref o)] (by decide +kernel) (Nat.le_of_ble_eq_true rfl) rfl ?_
  refine JJ_aload_n dX12_opens_0 rfl rfl ?_
  refine JJ_geti (v := nI (5 - (f + 1))) (cis := [12]) (k := 28) fa_X12_168 (by decide) hR.1 rfl (hX.1 28) hp.2.2.2.2.1 dX12_opens_1 ?_
  refine JJ_iconst (v := 5) dX12_opens_4 rfl ?_
  refine JJ_icmp_ne (tgt := 14) dX12_opens_5 (by decide) (fun _ => ?_) (fun c1 => absurd c1 (fun e => absurd ((nI_eq (a := 5 - (f + 1)) (b := 5) (by omega) (by omega)).mp e) (by omega)))
  refine JJ_aload_n dX12_opens_14 rfl rfl ?_
  refine JJ_dup dX12_opens_15 rfl ?_
  refine JJ_geti (v := nI (5 - (f + 1))) (cis := [12]) (k := 28) fa_X12_168 (by decide) hR.1 rfl (hX.1 28) hp.2.2.2.2.1 dX12_opens_16 ?_
  refine JJ_iconst (v := 1) dX12_opens_19 rfl ?_
  refine JJ_iadd dX12_opens_20 ?_
  refine JJ_eqi (x2 := nI ((5 - (f + 1)) + 1)) (nI_add (5 - (f + 1)) (1)) ?_
  refine JJ_puti (cis := [12]) (k := 28) fa_X12_168 (by decide) hR.1 rfl (fun r hr => by cases hr; exact ⟨rfl, by decide +kernel⟩) dX12_opens_21 (fun M2 hM3 => ?_)
  refine JJ_aload_n dX12_opens_24 rfl rfl ?_
  refine JJ_callV (rest := []) hR.1 rfl rfl (kp_nx (f := f) (b := b) (nm := nm) (m := m) (hp.1.keep (fun b k z => rd_n hM3 (by omega) rfl)) ((TB_keep (fun b k z => rd_n hM3 (by omega) rfl)).trans hp.2.1) he.2.2 ((rd_n hM3 (by omega) rfl).trans hp.2.2.2.1) ((rd_s hM3).trans (by rw [show 5 - (f + 1) + 1 = 5 - f by omega])) (fun k hk => (rd_n hM3 (by omega) rfl).trans (hp.2.2.2.2.2.1 k hk)) hB ((rd_n hM3 (by omega) rfl).trans h24) hR hX) (by decide) mi_X12_next lk_X12_174 rfl (Nat.le_of_ble_eq_true rfl) rfl rfl dX12_opens_25 ?_
  intro v4 μ5 h6
  obtain ⟨rfl, Mc, Lc, rfl, hpc, hfc, hlc⟩ := h6
  refine JJ_r0 ?_
  refine JJ_iconst (v := 1) dX12_opens_28 rfl ?_
  refine JJ_zret dX12_opens_29 rfl (Or.inr rfl) ?_
  exact ⟨rfl, Mc, Lc, rfl, hpc, fun b k z => (hfc b k z).trans (rd_n hM3 (fun e => z (by unfold PD; omega)) rfl), hlc⟩
end RW1
