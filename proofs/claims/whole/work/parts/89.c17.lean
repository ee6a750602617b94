section C17
variable {G : Gx} {sc : Nat → Nat → Prop} {n : Nat} {S : Nat → Nat × Nat} {M : Nat → Nat → Int32} {L : Nat → Nat → Int64} {P : Nat → Nat → Option Nat} {x : Nat} {A B : Abs}

/-! a rally, as functions of the state -/
theorem zst_hi {s j : Nat} : ∀ i, 5 ≤ i → z_st B s j i = 0 := by
  induction j with
  | zero => intro i hi; exact zC_hi hi
  | succ j ih =>
    intro i hi
    show s_after _ _ _ _ _ _ (j % 2) (z_st B s j) i = 0
    rw [sa_hi (by omega) hi]
    exact ih i hi
theorem zPut_zPut {κ κ' : Crt} : zPut (zPut B κ) κ' = zPut B κ' := by
  refine Prod.ext ?_ rfl
  funext b k
  show (if b = 0 ∧ k < 2 then κ' k else if b = 1 ∧ k < 2 then κ' (2 + k) else if b = 4 ∧ k = 0 then κ' 4 else (zPut B κ).1 b k) = _
  have e1 : ∀ κ : Crt, (zPut B κ).1 b k = if b = 0 ∧ k < 2 then κ k else if b = 1 ∧ k < 2 then κ (2 + k) else if b = 4 ∧ k = 0 then κ 4 else B.1 b k := fun _ => rfl
  rw [e1, e1]
  by_cases h0 : b = 0 ∧ k < 2
  · rw [if_pos h0, if_pos h0]
  · by_cases h1 : b = 1 ∧ k < 2
    · rw [if_neg h0, if_pos h1, if_neg h0, if_pos h1]
    · by_cases h4 : b = 4 ∧ k = 0
      · rw [if_neg h0, if_neg h1, if_pos h4, if_neg h0, if_neg h1, if_pos h4]
      · rw [if_neg h0, if_neg h1, if_neg h4, if_neg h0, if_neg h1, if_neg h4, if_neg h0, if_neg h1, if_neg h4]
theorem zPut_C : zPut B (zC B) = B := by
  refine Prod.ext ?_ rfl
  funext b k
  show (if b = 0 ∧ k < 2 then zC B k else if b = 1 ∧ k < 2 then zC B (2 + k) else if b = 4 ∧ k = 0 then zC B 4 else B.1 b k) = _
  split
  · rename_i h; obtain ⟨rfl, h⟩ := h; exact if_pos h
  · split
    · rename_i h
      obtain ⟨rfl, h⟩ := h
      unfold zC
      rw [if_neg (by omega), if_pos (by omega), show 2 + k - 2 = k by omega]
    · split
      · rename_i h; obtain ⟨rfl, rfl⟩ := h; rfl
      · rfl
/-- the row of a rally: the j-th is the stroke q -/
def RWY (B : Abs) (s N : Nat) : Prop := B.1 18 s = nI N ∧ N ≤ 40 ∧ ∀ j, j < N → ∃ q, q < zcnt B ∧ B.1 (20 + s) j = nI q
theorem RWY.zn {s N : Nat} (h : RWY B s N) : zN B s = N := by
  show i2n _ = N
  rw [h.1]
  exact nI_clamp (by have := h.2.1; omega)
theorem RWY.kna {s N j q : Nat} (h : RWY B s N) (hj : j < N) (hq : B.1 (20 + s) j = nI q) (hq6 : q < 6) : zKq B s j = B.1 5 q ∧ zNq B s j = B.1 6 q ∧ zAq B s j = B.1 7 q := by
  have e : ∀ f : Nat → Int32, rq (zN B s) f (B.1 (20 + s)) j = f q := fun f => rq_e (by rw [h.zn]; exact hj) hq (by omega)
  exact ⟨e _, e _, e _⟩
theorem zst_0 {s : Nat} : z_st B s 0 = zC B := rfl
theorem zw_st {s N j q : Nat} (h : RWY B s N) (hj : j < N) (hq : B.1 (20 + s) j = nI q) (hq6 : q < 6) : zw (zPut B (z_st B s j)) q (j % 2) ↔ sr_w (zE B) (zQ B) (zH B) (zKq B s) (zNq B s) (zAq B s) (zC B) j := by
  obtain ⟨e1, e2, e3⟩ := h.kna hj hq hq6
  unfold zw sr_w
  rw [zC_put zst_hi, e1, e2, e3]
  exact Iff.rfl
theorem za_st {s N j q : Nat} (h : RWY B s N) (hj : j < N) (hq : B.1 (20 + s) j = nI q) (hq6 : q < 6) : za (zPut B (z_st B s j)) q (j % 2) = z_st B s (j + 1) := by
  obtain ⟨e1, e2, e3⟩ := h.kna hj hq hq6
  show s_after _ _ _ _ _ _ _ (zC (zPut B (z_st B s j))) = s_after _ _ _ (zKq B s j) (zNq B s j) (zAq B s j) _ (z_st B s j)
  rw [zC_put zst_hi, e1, e2, e3]
  rfl
theorem zto_st {s N j q : Nat} (h : RWY B s N) (hj : j < N) (hq : B.1 (20 + s) j = nI q) (hq6 : q < 6) : z_to B s j = s_comes (B.1 5 q) (B.1 7 q) (z_st B s j (j % 2)) := by
  obtain ⟨e1, e2, e3⟩ := h.kna hj hq hq6
  show s_comes (zKq B s j) (zAq B s j) _ = _
  rw [e1, e3]
theorem slip_st {s N j q : Nat} (h : RWY B s N) (hj : j < N) (hq : B.1 (20 + s) j = nI q) (hq6 : q < 6) : s_slips (zE B) (z_st B s j 4) (z_st B s j (2 + j % 2)) (B.1 2 (j % 2)) (B.1 6 q) (z_st B s j (j % 2)) (s_comes (B.1 5 q) (B.1 7 q) (z_st B s j (j % 2))) = sr_slip (zE B) (zQ B) (zH B) (zKq B s) (zNq B s) (zAq B s) (zC B) j := by
  obtain ⟨e1, e2, e3⟩ := h.kna hj hq hq6
  unfold sr_slip
  rw [← zto_st h hj hq hq6, e2, show zQ B (j % 2) = B.1 2 (j % 2) from t2_e (by omega)]
theorem rn3_st {s N : Nat} (hg : RN3 B) (h : RWY B s N) : ∀ j, j ≤ N → RN3 (zPut B (z_st B s j)) := by
  intro j
  induction j with
  | zero => intro _; rw [zst_0, zPut_C]; exact hg
  | succ j ih =>
    intro hj
    obtain ⟨q, hq, eq⟩ := h.2.2 j (by omega)
    obtain ⟨k, hk6, hkA, hkz⟩ := cnt_e hg.1
    have := rn3_sa (q := q) (p := j % 2) (ih (by omega)) (by omega) (by rw [zPut_zcnt]; exact hq)
    rw [zPut_zPut, za_st h (by omega) eq (by omega)] at this
    exact this
theorem way_1 {s j : Nat} (h : ¬ sr_w (zE B) (zQ B) (zH B) (zKq B s) (zNq B s) (zAq B s) (zC B) j ∧ z_way B s j = -1 ∧ s_over (i2n (z_st B s j (1 - j % 2))) (i2n (z_to B s j)) (z_st B s j (j % 2))) : z_way B s (j + 1) = nI j := if_pos h
theorem way_0 {s j : Nat} (h : ¬ (¬ sr_w (zE B) (zQ B) (zH B) (zKq B s) (zNq B s) (zAq B s) (zC B) j ∧ z_way B s j = -1 ∧ s_over (i2n (z_st B s j (1 - j % 2))) (i2n (z_to B s j)) (z_st B s j (j % 2)))) : z_way B s (j + 1) = z_way B s j := if_neg h
theorem fin_1 {s d j : Nat} (h : sr_w (zE B) (zQ B) (zH B) (zKq B s) (zNq B s) (zAq B s) (zC B) j) : sr_fin (zE B) (zQ B) (zH B) (zKq B s) (zNq B s) (zAq B s) (zC B) (d + 1) j = (j + 1, true) := if_pos h
theorem fin_0 {s d j : Nat} (h : ¬ sr_w (zE B) (zQ B) (zH B) (zKq B s) (zNq B s) (zAq B s) (zC B) j) : sr_fin (zE B) (zQ B) (zH B) (zKq B s) (zNq B s) (zAq B s) (zC B) (d + 1) j = sr_fin (zE B) (zQ B) (zH B) (zKq B s) (zNq B s) (zAq B s) (zC B) d (j + 1) := if_neg h
/-- what a rally may change in the class -/
def PQ (x c b k : Nat) : Prop := b = x + 9 ∨ (b = x ∧ (k = 14 ∨ k = 16)) ∨ CD c b k
theorem iw {v : Int32} (h : cv v) : v = nI (i2n v) ∧ i2n v < 25 := by
  obtain ⟨f, hf, rfl⟩ := cv_nI h
  rw [show i2n (nI f) = f from nI_clamp (by omega)]
  exact ⟨rfl, hf⟩
set_option maxHeartbeats 4000000 in
set_option maxRecDepth 100000 in
theorem kc_playOut {c s N : Nat} (hs : s < 4) (hr : RWY B s N) (hMN : M (x + 67 + 2 * s) 2 = nI N) (hMI : ∀ j, j < N → M (x + 67 + 2 * s + 1) j = B.1 (20 + s) j) (hct : CTA x c P M B) (ht : TXS x M B) (hst : STS x n S P M B) (hg3 : RN3 B) (hC : CWF x S P) (hX : HSC x sc) : KK G sc yX11_playOut cX11_playOut 9 (some .int) 8 0 0 [.ref x, .ref c, .ref (x + 67 + 2 * s)] (n, S, M, L, P) (fun v μ => v = some (.int (sr_wins (z_fin B s))) ∧ ∃ M' L', μ = (n, S, M', L', P) ∧ CTA x c P M' (zPut B (z_st B s (z_fin B s).1)) ∧ M' x 14 = nI (z_fin B s).1 ∧ L' x 15 = z_lk B s (z_fin B s).1 ∧ M' x 16 = z_way B s (z_fin B s).1 ∧ (∀ i, i < (z_fin B s).1 → M' (x + 9) i = z_to B s i) ∧ ∀ b k, ¬ PQ x c b k → M' b k = M b k) := by
  have hg := hg3.1
  obtain ⟨cn, hc6, hcA, hcZ⟩ := cnt_e hg
  have h6 := (rul_lt hg).2
  have hat := hct.1.at
  have hN4 := hr.2.1
  refine KK_of2 [(0, .ref x), (1, .ref c), (2, .ref (x + 67 + 2 * s))] (by decide +kernel) (Nat.le_of_ble_eq_true rfl) rfl ?_
  refine JJ_aload_n dX11_playOut_0 rfl rfl ?_
  refine JJ_iconst (v := 0) dX11_playOut_1 rfl ?_
  refine JJ_puti (cis := [11]) (k := 14) fa_X11_60 (by decide) (congrArg Prod.fst (hC.sh (t := 0) (k := 12) (m := 0) (by decide))) rfl (fun r hr => by cases hr; exact ⟨rfl, by decide +kernel⟩) dX11_playOut_2 (fun M1 hM2 => ?_)
  refine JJ_aload_n dX11_playOut_5 rfl rfl ?_
  refine JJ_ldc2 (v := 1000000000) dX11_playOut_6 tb_135 ?_
  refine JJ_putl (cis := [11]) (k := 15) fa_X11_65 (by decide) (congrArg Prod.fst (hC.sh (t := 0) (k := 12) (m := 0) (by decide))) rfl (fun r hr => by cases hr; exact ⟨rfl, by decide +kernel⟩) dX11_playOut_9 (fun L3 hL4 => ?_)
  refine JJ_aload_n dX11_playOut_12 rfl rfl ?_
  refine JJ_iconst (v := (-1)) dX11_playOut_13 rfl ?_
  refine JJ_puti (cis := [11]) (k := 16) fa_X11_69 (by decide) (congrArg Prod.fst (hC.sh (t := 0) (k := 12) (m := 0) (by decide))) rfl (fun r hr => by cases hr; exact ⟨rfl, by decide +kernel⟩) dX11_playOut_14 (fun M5 hM6 => ?_)
  refine JJ_aload_n dX11_playOut_17 rfl rfl ?_
  refine JJ_ifnonnullR (tgt := 23) dX11_playOut_18 (by decide) ?_
  refine JJ_iconst (v := 0) dX11_playOut_23 rfl ?_
  refine JJ_istore_n (lv' := [(3, .int 0), (0, .ref x), (1, .ref c), (2, .ref (x + 67 + 2 * s))]) dX11_playOut_24 rfl (by decide) rfl ?_
  have key : ∀ (d j : Nat) (Mx : Nat → Nat → Int32) (Lx : Nat → Nat → Int64), j + d = N → sr_fin (zE B) (zQ B) (zH B) (zKq B s) (zNq B s) (zAq B s) (zC B) d j = z_fin B s → CTA x c P Mx (zPut B (z_st B s j)) → Mx x 14 = nI j → Lx x 15 = z_lk B s j → Mx x 16 = z_way B s j → (∀ i, i < j → Mx (x + 9) i = z_to B s i) → (∀ b k, ¬ PQ x c b k → Mx b k = M b k) → JJ G sc yX11_playOut cX11_playOut 9 (some .int) 8 0 0 (fun v μ => v = some (.int (sr_wins (z_fin B s))) ∧ ∃ M' L', μ = (n, S, M', L', P) ∧ CTA x c P M' (zPut B (z_st B s (z_fin B s).1)) ∧ M' x 14 = nI (z_fin B s).1 ∧ L' x 15 = z_lk B s (z_fin B s).1 ∧ M' x 16 = z_way B s (z_fin B s).1 ∧ (∀ i, i < (z_fin B s).1 → M' (x + 9) i = z_to B s i) ∧ ∀ b k, ¬ PQ x c b k → M' b k = M b k) 25 [(3, .int (nI j)), (0, .ref x), (1, .ref c), (2, .ref (x + 67 + 2 * s))] [] (n, S, Mx, Lx, P) := by
    intro d
    induction d with
    | zero =>
      intro j Mx Lx hjd hfin hcx h14 h15 h16 h9 hfx
      have hjN : j = N := by omega
      refine JJ_iload_n dX11_playOut_25 rfl rfl ?_
      refine JJ_aload_n dX11_playOut_26 rfl rfl ?_
      refine JJ_geti (v := nI N) (cis := [7]) (k := 2) fa_X11_225 (by decide) (congrArg Prod.fst (hC.2.2.2.2 s hs).1) rfl (hX.1 _ _ (by omega) (by omega) (by omega)) ((hfx _ _ (by unfold PQ CD; omega)).trans hMN) dX11_playOut_27 ?_
      refine JJ_icmp_ge (tgt := 187) dX11_playOut_30 (by decide) (fun _ => ?_) (fun c7 => absurd (nI_le (by omega) (by omega)) c7)
      refine JJ_iconst (v := (-1)) dX11_playOut_187 rfl ?_
      refine JJ_iret dX11_playOut_188 rfl ?_
      have hF : z_fin B s = (j, false) := hfin.symm
      rw [hF]
      exact ⟨rfl, Mx, Lx, rfl, hcx, h14, h15, h16, h9, hfx⟩
    | succ d ih =>
      intro j Mx Lx hjd hfin hcx h14 h15 h16 h9 hfx
      have hj : j < N := by omega
      obtain ⟨q, hq, eq⟩ := hr.2.2 j hj
      have hq6 : q < 6 := by omega
      have hstx : STS x n S P Mx B := hst.keep (hfx _ _ (by unfold PQ CD; omega)) (fun b k z => hfx b k (by unfold PQ CD; omega)) (fun k => rfl)
      have htx : TXS x Mx B := ht.keep (fun b k z1 z2 => hfx b k (by unfold PQ CD; omega)) h6
      obtain ⟨a, ha, ha1, ha2, hsk⟩ := hstx.at hq
      have hp : j % 2 < 2 := by omega
      have hpq : 1 - j % 2 < 2 := by omega
      have hgj := rn3_st hg3 hr j (by omega)
      have htj : TXS x Mx (zPut B (z_st B s j)) := ⟨fun i hi => htx.1 i (by rw [← zPut_o (A := B) (κ := z_st B s j) (b := 10) (k := 0) (by decide)]; exact hi), htx.2⟩
      have hitem : Mx (x + 67 + 2 * s + 1) j = nI q := (hfx _ _ (by unfold PQ CD; omega)).trans ((hMI j hj).trans eq)
      have hr0 : Mx (c + 1 + j % 2) 0 = z_st B s j (j % 2) := (hcx.c0 hp).trans (zPut_0 hp)
      have hr1 : Mx (c + 1 + (1 - j % 2)) 0 = z_st B s j (1 - j % 2) := (hcx.c0 hpq).trans (zPut_0 hpq)
      refine JJ_iload_n dX11_playOut_25 rfl rfl ?_
      refine JJ_aload_n dX11_playOut_26 rfl rfl ?_
      refine JJ_geti (v := nI N) (cis := [7]) (k := 2) fa_X11_225 (by decide) (congrArg Prod.fst (hC.2.2.2.2 s hs).1) rfl (hX.1 _ _ (by omega) (by omega) (by omega)) ((hfx _ _ (by unfold PQ CD; omega)).trans hMN) dX11_playOut_27 ?_
      refine JJ_icmp_ge (tgt := 187) dX11_playOut_30 (by decide) (fun c8 => absurd c8 (nI_ge (by omega) (by omega))) (fun _ => ?_)
      refine JJ_iload_n dX11_playOut_33 rfl rfl ?_
      refine JJ_aload_n dX11_playOut_34 rfl rfl ?_
      refine JJ_getr (q := x + 9) (cis := [11]) (k := 13) fa_X11_57 (by decide) (congrArg Prod.fst (hC.sh (t := 0) (k := 12) (m := 0) (by decide))) rfl (hC.rf (t := 0) (s := 13) (u := 9) (by decide)) dX11_playOut_35 ?_
      refine JJ_alen (t := 0) (hC.sh (t := 9) (k := 20) (m := 40) (by decide)) (by decide) dX11_playOut_38 ?_
      refine JJ_icmp_ge (tgt := 187) dX11_playOut_39 (by decide) (fun c9 => absurd c9 (nI_ge (b := 40) (by omega) (by omega))) (fun _ => ?_)
      refine JJ_aload_n dX11_playOut_42 rfl rfl ?_
      refine JJ_aload_n dX11_playOut_43 rfl rfl ?_
      refine JJ_iload_n dX11_playOut_44 rfl rfl ?_
      refine JJ_callV (rest := [.ref x]) (congrArg Prod.fst (hC.2.2.2.2 s hs).1) rfl rfl (kc_item ((hfx _ _ (by unfold PQ CD; omega)).trans hMN) hN4 hj hs hC hX) (by omega) mi_X7_item lk_X11_277 rfl (Nat.le_of_ble_eq_true rfl) rfl rfl dX11_playOut_45 ?_
      intro v10 μ11 h12
      obtain ⟨rfl, rfl⟩ := h12
      refine JJ_r1 ?_
      refine JJ_eqi (x2 := nI q) hitem ?_
      refine JJ_callV (rest := []) (congrArg Prod.fst (hC.sh (t := 0) (k := 12) (m := 0) (by decide))) rfl rfl (kc_strokeAt hq ha hstx hg hC hX) (by omega) mi_X11_strokeAt lk_X11_129 rfl (Nat.le_of_ble_eq_true rfl) rfl rfl dX11_playOut_48 ?_
      intro v13 μ14 h15
      obtain ⟨rfl, rfl⟩ := h15
      refine JJ_r1 ?_
      refine JJ_astore (lv' := [(4, .ref a), (3, .int (nI j)), (0, .ref x), (1, .ref c), (2, .ref (x + 67 + 2 * s))]) dX11_playOut_51 (by decide) rfl ?_
      refine JJ_aload dX11_playOut_53 rfl ?_
      refine JJ_ifnonnullR (tgt := 60) dX11_playOut_55 (by decide) ?_
      refine JJ_iload_n dX11_playOut_60 rfl rfl ?_
      refine JJ_iconst (v := 2) dX11_playOut_61 rfl ?_
      refine JJ_irem dX11_playOut_62 (by decide) ?_
      refine JJ_eqi (x2 := nI (j % 2)) (pk_rem (a := j) (d := 2) (by omega) (by decide) (by decide)) ?_
      refine JJ_istore (lv' := [(5, .int (nI (j % 2))), (4, .ref a), (3, .int (nI j)), (0, .ref x), (1, .ref c), (2, .ref (x + 67 + 2 * s))]) dX11_playOut_63 (by decide) rfl ?_
      refine JJ_aload_n dX11_playOut_65 rfl rfl ?_
      refine JJ_iload dX11_playOut_66 rfl ?_
      refine JJ_callV (rest := []) (congrArg Prod.fst (hct.1.sh hC).1) rfl rfl (kc_one (c := c) (p := j % 2) (by omega) (hcx.rt hgj.1 htj) hC hX) (by omega) mi_X1_one lk_X11_119 rfl (Nat.le_of_ble_eq_true rfl) rfl rfl dX11_playOut_68 ?_
      intro v16 μ17 h18
      obtain ⟨rfl, rfl⟩ := h18
      refine JJ_r1 ?_
      refine JJ_astore (lv' := [(6, .ref (c + 1 + (j % 2))), (5, .int (nI (j % 2))), (4, .ref a), (3, .int (nI j)), (0, .ref x), (1, .ref c), (2, .ref (x + 67 + 2 * s))]) dX11_playOut_71 (by decide) rfl ?_
      refine JJ_aload dX11_playOut_73 rfl ?_
      refine JJ_geti (v := z_st B s j (j % 2)) (cis := [6]) (k := 0) fa_X11_150 (by decide) (hct.1.pl hC (p := (j % 2)) (by omega)) rfl (hX.1 _ _ (by omega) (by omega) (by omega)) hr0 dX11_playOut_75 ?_
      refine JJ_istore (lv' := [(7, .int (z_st B s j (j % 2))), (6, .ref (c + 1 + (j % 2))), (5, .int (nI (j % 2))), (4, .ref a), (3, .int (nI j)), (0, .ref x), (1, .ref c), (2, .ref (x + 67 + 2 * s))]) dX11_playOut_78 (by decide) rfl ?_
      refine JJ_aload_n dX11_playOut_80 rfl rfl ?_
      refine JJ_iconst (v := 1) dX11_playOut_81 rfl ?_
      refine JJ_iload dX11_playOut_82 rfl ?_
      refine JJ_isub dX11_playOut_84 ?_
      refine JJ_eqi (x2 := nI (1 - j % 2)) (e_sub1 (by omega)) ?_
      refine JJ_callV (rest := []) (congrArg Prod.fst (hct.1.sh hC).1) rfl rfl (kc_one (c := c) (p := 1 - j % 2) (by omega) (hcx.rt hgj.1 htj) hC hX) (by omega) mi_X1_one lk_X11_119 rfl (Nat.le_of_ble_eq_true rfl) rfl rfl dX11_playOut_85 ?_
      intro v19 μ20 h21
      obtain ⟨rfl, rfl⟩ := h21
      refine JJ_r1 ?_
      refine JJ_geti (v := z_st B s j (1 - j % 2)) (cis := [6]) (k := 0) fa_X11_150 (by decide) (hct.1.pl hC (p := (1 - j % 2)) (by omega)) rfl (hX.1 _ _ (by omega) (by omega) (by omega)) hr1 dX11_playOut_88 ?_
      refine JJ_istore (lv' := [(8, .int (z_st B s j (1 - j % 2))), (7, .int (z_st B s j (j % 2))), (6, .ref (c + 1 + (j % 2))), (5, .int (nI (j % 2))), (4, .ref a), (3, .int (nI j)), (0, .ref x), (1, .ref c), (2, .ref (x + 67 + 2 * s))]) dX11_playOut_91 (by decide) rfl ?_
      refine JJ_aload_n dX11_playOut_93 rfl rfl ?_
      refine JJ_getr (q := x + 9) (cis := [11]) (k := 13) fa_X11_57 (by decide) (congrArg Prod.fst (hC.sh (t := 0) (k := 12) (m := 0) (by decide))) rfl (hC.rf (t := 0) (s := 13) (u := 9) (by decide)) dX11_playOut_94 ?_
      refine JJ_iload_n dX11_playOut_97 rfl rfl ?_
      refine JJ_aload dX11_playOut_98 rfl ?_
      refine JJ_iload dX11_playOut_100 rfl ?_
      refine ju_X11_153 hsk rfl (fun k => hX.2.1 _ _ ha1) (by omega) (Nat.le_of_ble_eq_true rfl) dX11_playOut_102 ?_
      refine JJ_eqi (x2 := z_to B s j) (zto_st hr hj eq hq6).symm ?_
      refine JJ_iastX (hC.sh (t := 9) (k := 20) (m := 40) (by decide)) (IX_nI (by omega) (by omega)) dX11_playOut_105 (fun M22 hM23 => ?_)
      refine JJ_aload_n dX11_playOut_106 rfl rfl ?_
      refine JJ_aload_n dX11_playOut_107 rfl rfl ?_
      refine JJ_getl (v := z_lk B s j) (cis := [11]) (k := 15) fa_X11_65 (by decide) (congrArg Prod.fst (hC.sh (t := 0) (k := 12) (m := 0) (by decide))) rfl (hX.1 _ _ (by omega) (by omega) (by omega)) h15 dX11_playOut_108 ?_
      refine JJ_bipush (v := 100) dX11_playOut_111 rfl ?_
      refine JJ_aload_n dX11_playOut_113 rfl rfl ?_
      refine JJ_aload dX11_playOut_114 rfl ?_
      refine JJ_aload dX11_playOut_116 rfl ?_
      have hc1 : CTA x c P M22 (zPut B (z_st B s j)) := hcx.keep (fun k => ⟨rd_n hM23 (by omega) rfl, rd_n hM23 (by omega) rfl, rd_n hM23 (by omega) rfl⟩) rfl
      have ht1 : TXS x M22 (zPut B (z_st B s j)) := htj.keep (fun b k z1 z2 => rd_n hM23 (by omega) rfl) (by rw [zPut_o (by decide)]; exact h6)
      have hsk1 := hsk.keep (M' := M22) (rd_n hM23 (by omega) rfl) (rd_n hM23 (by omega) rfl)
      refine JJ_callV (rest := [.int 100, .long (z_lk B s j), .ref x]) (congrArg Prod.fst (hct.1.sh hC).1) rfl rfl (kc_slips (p := j % 2) (E := zE (zPut B (z_st B s j))) hp hsk1 (fun k => hX.2.1 _ _ ha1) (hc1.rt hgj.1 ht1) hC hX) (by omega) mi_X1_slipsOf lk_X11_160 rfl (Nat.le_of_ble_eq_true rfl) rfl rfl dX11_playOut_118 ?_
      intro v24 μ25 h26
      obtain ⟨rfl, rfl⟩ := h26
      refine JJ_r1 ?_
      refine JJ_eqi (x2 := sr_slip (zE B) (zQ B) (zH B) (zKq B s) (zNq B s) (zAq B s) (zC B) j) ((by rw [hc1.w, hc1.c1 hp, hc1.c2 hp, hc1.c0 hp, zPut_4, zPut_1 hp, zPut_0 hp, zPut_o (by decide)]; rfl : s_slips (zE (zPut B (z_st B s j))) (M22 c 2) (M22 (c + 1 + j % 2) 1) (M22 (c + 1 + j % 2) 2) (B.1 6 q) (M22 (c + 1 + j % 2) 0) (s_comes (B.1 5 q) (B.1 7 q) (M22 (c + 1 + j % 2) 0)) = s_slips (zE B) (z_st B s j 4) (z_st B s j (2 + j % 2)) (B.1 2 (j % 2)) (B.1 6 q) (z_st B s j (j % 2)) (s_comes (B.1 5 q) (B.1 7 q) (z_st B s j (j % 2)))).trans (slip_st hr hj eq hq6)) ?_
      refine JJ_isub dX11_playOut_121 ?_
      refine JJ_i2l dX11_playOut_122 ?_
      refine JJ_lmul dX11_playOut_123 ?_
      refine JJ_ldc2 (v := 100) dX11_playOut_124 tb_763 ?_
      refine JJ_ldiv dX11_playOut_127 (by decide) ?_
      refine JJ_putl (cis := [11]) (k := 15) fa_X11_65 (by decide) (congrArg Prod.fst (hC.sh (t := 0) (k := 12) (m := 0) (by decide))) rfl (fun r hr => by cases hr; exact ⟨rfl, by decide +kernel⟩) dX11_playOut_128 (fun L27 hL28 => ?_)
      refine JJ_aload_n dX11_playOut_131 rfl rfl ?_
      refine JJ_iload_n dX11_playOut_132 rfl rfl ?_
      refine JJ_iconst (v := 1) dX11_playOut_133 rfl ?_
      refine JJ_iadd dX11_playOut_134 ?_
      refine JJ_eqi (x2 := nI (j + 1)) (nI_add (j) (1)) ?_
      refine JJ_puti (cis := [11]) (k := 14) fa_X11_60 (by decide) (congrArg Prod.fst (hC.sh (t := 0) (k := 12) (m := 0) (by decide))) rfl (fun r hr => by cases hr; exact ⟨rfl, by decide +kernel⟩) dX11_playOut_135 (fun M29 hM30 => ?_)
      refine JJ_aload_n dX11_playOut_138 rfl rfl ?_
      refine JJ_iload dX11_playOut_139 rfl ?_
      refine JJ_aload dX11_playOut_141 rfl ?_
      have hfq : ∀ b k, b ≠ x + 9 → ¬ (b = x ∧ k = 14) → M29 b k = Mx b k := fun b k z1 z2 => (rd_n hM30 (by omega) (rd_n hM23 (by omega) rfl))
      have hc2 : CTA x c P M29 (zPut B (z_st B s j)) := hcx.keep (fun k => ⟨hfq _ _ (by omega) (by omega), hfq _ _ (by omega) (by omega), hfq _ _ (by omega) (by omega)⟩) rfl
      have ht2 : TXS x M29 (zPut B (z_st B s j)) := htj.keep (fun b k z1 z2 => hfq _ _ (by omega) (by omega)) (by rw [zPut_o (by decide)]; exact h6)
      have hsk2 : STK S M29 a ((zPut B (z_st B s j)).1 5 q) ((zPut B (z_st B s j)).1 6 q) ((zPut B (z_st B s j)).1 7 q) := by
        rw [zPut_o (by decide), zPut_o (by decide), zPut_o (by decide)]
        exact hsk.keep (hfq _ _ (by omega) (by omega)) (hfq _ _ (by omega) (by omega))
      refine JJ_callV (rest := []) (congrArg Prod.fst (hct.1.sh hC).1) rfl rfl (kc_strikeA (q := q) hp (by rw [zPut_zcnt]; exact hq) hsk2 ha1 hc2 ht2 hgj hC hX) (by omega) mi_X1_strike lk_X11_250 rfl (Nat.le_of_ble_eq_true rfl) rfl rfl dX11_playOut_143 ?_
      intro v31 μ32 h33
      obtain ⟨rfl, Ms, rfl, hcs, hfs⟩ := h33
      refine JJ_r1 ?_
      rw [zPut_zPut, za_st hr hj eq hq6] at hcs
      refine JJ_if_eq (tgt := 152) dX11_playOut_146 (by decide) (fun c34 => ?_) (fun c34 => ?_)
      · skip
        refine JJ_aload_n dX11_playOut_152 rfl rfl ?_
        refine JJ_geti (v := z_way B s j) (cis := [11]) (k := 16) fa_X11_69 (by decide) (congrArg Prod.fst (hC.sh (t := 0) (k := 12) (m := 0) (by decide))) rfl (hX.1 _ _ (by omega) (by omega) (by omega)) ((hfs _ _ (by unfold CD; omega)).trans (rd_n hM30 (by omega) (rd_n hM23 (by omega) h16))) dX11_playOut_153 ?_
        refine JJ_iconst (v := (-1)) dX11_playOut_156 rfl ?_
        refine JJ_icmp_ne (tgt := 181) dX11_playOut_157 (by decide) (fun c35 => ?_) (fun c35 => ?_)
        · skip
          refine JJ_iinc (v := nI (j + 1)) (lv' := [(3, .int (nI (j + 1))), (8, .int (z_st B s j (1 - j % 2))), (7, .int (z_st B s j (j % 2))), (6, .ref (c + 1 + (j % 2))), (5, .int (nI (j % 2))), (4, .ref a), (0, .ref x), (1, .ref c), (2, .ref (x + 67 + 2 * s))]) dX11_playOut_181 rfl (nI_add (j) 1) (by decide) rfl ?_
          refine JJ_goto (tgt := 25) dX11_playOut_184 (by decide) ?_
          have hww := fun z => (b2_0.mp c34) ((zw_st hr hj eq hq6).mpr z)
          have hF := hfin
          rw [fin_0 hww] at hF
          refine JJ.pick [0, 6, 7, 8] rfl ?_
          refine ih (j + 1) Ms L27 (by omega) hF (hcs) ((hfs _ _ (by unfold CD; omega)).trans (rd_s hM30)) (rd_s hL28) (((hfs _ _ (by unfold CD; omega)).trans (rd_n hM30 (by omega) (rd_n hM23 (by omega) h16))).trans (way_0 (fun z => c35 z.2.1)).symm) (fun i hi => ?_) (fun b k z => ((hfs b k (fun e => z (Or.inr (Or.inr e)))).trans (rd_n hM30 (fun e => z (by unfold PQ; omega)) (rd_n hM23 (fun e => z (by unfold PQ; omega)) (hfx b k z)))))
          rcases (by omega : i < j ∨ i = j) with y | rfl
          · exact ((hfs _ _ (by unfold CD; omega)).trans (rd_n hM30 (by omega) (rd_n hM23 (by omega) (h9 i y))))
          · exact ((hfs _ _ (by unfold CD; omega)).trans (rd_n hM30 (by omega) (rd_s hM23)))
        · skip
          refine JJ_iload dX11_playOut_160 rfl ?_
          refine JJ_aload_n dX11_playOut_162 rfl rfl ?_
          refine JJ_getr (q := x + 9) (cis := [11]) (k := 13) fa_X11_57 (by decide) (congrArg Prod.fst (hC.sh (t := 0) (k := 12) (m := 0) (by decide))) rfl (hC.rf (t := 0) (s := 13) (u := 9) (by decide)) dX11_playOut_163 ?_
          refine JJ_iload_n dX11_playOut_166 rfl rfl ?_
          refine JJ_ialdX (v := z_to B s j) (hC.sh (t := 9) (k := 20) (m := 40) (by decide)) (IX_nI (by omega) (by omega)) (hX.1 _ _ (by omega) (by omega) (by omega)) ((hfs _ _ (by unfold CD; omega)).trans (rd_n hM30 (by omega) (rd_s hM23))) dX11_playOut_167 ?_
          refine JJ_iload dX11_playOut_168 rfl ?_
          have hcvs := hgj.1.1
          have hv0 : cv (z_st B s j (1 - j % 2)) := by have := hcvs (1 - j % 2) hpq; rw [zPut_0 hpq] at this; exact this
          have hv1 : cv (z_to B s j) := by rw [zto_st hr hj eq hq6]; exact cv_comes (hg.2.2.1 q (by omega))
          obtain ⟨g1, g2⟩ := iw hv0
          obtain ⟨g3, g4⟩ := iw hv1
          have hgo := kc_goesOver (G := G) (sc := sc) (n := n) (S := S) (M := Ms) (L := L27) (P := P) (c0 := z_st B s j (j % 2)) g2 g4
          rw [← g1, ← g3] at hgo
          refine JJ_callS (rest := []) (hgo) (by omega) mi_X11_goesOver lk_X11_323 rfl (Nat.le_of_ble_eq_true rfl) rfl rfl dX11_playOut_170 ?_
          intro v36 μ37 h38
          obtain ⟨rfl, rfl⟩ := h38
          refine JJ_r1 ?_
          refine JJ_if_eq (tgt := 181) dX11_playOut_173 (by decide) (fun c39 => ?_) (fun c39 => ?_)
          · skip
            refine JJ_iinc (v := nI (j + 1)) (lv' := [(3, .int (nI (j + 1))), (8, .int (z_st B s j (1 - j % 2))), (7, .int (z_st B s j (j % 2))), (6, .ref (c + 1 + (j % 2))), (5, .int (nI (j % 2))), (4, .ref a), (0, .ref x), (1, .ref c), (2, .ref (x + 67 + 2 * s))]) dX11_playOut_181 rfl (nI_add (j) 1) (by decide) rfl ?_
            refine JJ_goto (tgt := 25) dX11_playOut_184 (by decide) ?_
            have hww := fun z => (b2_0.mp c34) ((zw_st hr hj eq hq6).mpr z)
            have hgv := b2_0.mp c39
            have hF := hfin
            rw [fin_0 hww] at hF
            refine JJ.pick [0, 6, 7, 8] rfl ?_
            refine ih (j + 1) Ms L27 (by omega) hF (hcs) ((hfs _ _ (by unfold CD; omega)).trans (rd_s hM30)) (rd_s hL28) (((hfs _ _ (by unfold CD; omega)).trans (rd_n hM30 (by omega) (rd_n hM23 (by omega) h16))).trans (way_0 (fun z => hgv z.2.2)).symm) (fun i hi => ?_) (fun b k z => ((hfs b k (fun e => z (Or.inr (Or.inr e)))).trans (rd_n hM30 (fun e => z (by unfold PQ; omega)) (rd_n hM23 (fun e => z (by unfold PQ; omega)) (hfx b k z)))))
            rcases (by omega : i < j ∨ i = j) with y | rfl
            · exact ((hfs _ _ (by unfold CD; omega)).trans (rd_n hM30 (by omega) (rd_n hM23 (by omega) (h9 i y))))
            · exact ((hfs _ _ (by unfold CD; omega)).trans (rd_n hM30 (by omega) (rd_s hM23)))
          · skip
            refine JJ_aload_n dX11_playOut_176 rfl rfl ?_
            refine JJ_iload_n dX11_playOut_177 rfl rfl ?_
            refine JJ_puti (cis := [11]) (k := 16) fa_X11_69 (by decide) (congrArg Prod.fst (hC.sh (t := 0) (k := 12) (m := 0) (by decide))) rfl (fun r hr => by cases hr; exact ⟨rfl, by decide +kernel⟩) dX11_playOut_178 (fun M40 hM41 => ?_)
            refine JJ_iinc (v := nI (j + 1)) (lv' := [(3, .int (nI (j + 1))), (8, .int (z_st B s j (1 - j % 2))), (7, .int (z_st B s j (j % 2))), (6, .ref (c + 1 + (j % 2))), (5, .int (nI (j % 2))), (4, .ref a), (0, .ref x), (1, .ref c), (2, .ref (x + 67 + 2 * s))]) dX11_playOut_181 rfl (nI_add (j) 1) (by decide) rfl ?_
            refine JJ_goto (tgt := 25) dX11_playOut_184 (by decide) ?_
            have hww := fun z => (b2_0.mp c34) ((zw_st hr hj eq hq6).mpr z)
            have hgv := b2_n.mp c39
            have hF := hfin
            rw [fin_0 hww] at hF
            refine JJ.pick [0, 6, 7, 8] rfl ?_
            refine ih (j + 1) M40 L27 (by omega) hF (hcs.keep (fun k => ⟨rd_n hM41 (by omega) rfl, rd_n hM41 (by omega) rfl, rd_n hM41 (by omega) rfl⟩) rfl) (rd_n hM41 (by omega) ((hfs _ _ (by unfold CD; omega)).trans (rd_s hM30))) (rd_s hL28) ((rd_s hM41).trans (way_1 ⟨hww, c35, hgv⟩).symm) (fun i hi => ?_) (fun b k z => (rd_n hM41 (fun e => z (by unfold PQ; omega)) ((hfs b k (fun e => z (Or.inr (Or.inr e)))).trans (rd_n hM30 (fun e => z (by unfold PQ; omega)) (rd_n hM23 (fun e => z (by unfold PQ; omega)) (hfx b k z))))))
            rcases (by omega : i < j ∨ i = j) with y | rfl
            · exact (rd_n hM41 (by omega) ((hfs _ _ (by unfold CD; omega)).trans (rd_n hM30 (by omega) (rd_n hM23 (by omega) (h9 i y)))))
            · exact (rd_n hM41 (by omega) ((hfs _ _ (by unfold CD; omega)).trans (rd_n hM30 (by omega) (rd_s hM23))))
      · skip
        refine JJ_iload dX11_playOut_149 rfl ?_
        refine JJ_iret dX11_playOut_151 rfl ?_
        have hww := (zw_st hr hj eq hq6).mp (b2_n.mp c34)
        have hF : z_fin B s = (j + 1, true) := hfin.symm.trans (fin_1 hww)
        rw [hF]
        refine ⟨by show some (Value.int (nI (j % 2))) = some (Value.int (nI ((j + 1 - 1) % 2))); rw [Nat.add_sub_cancel], Ms, L27, rfl, hcs, ((hfs _ _ (by unfold CD; omega)).trans (rd_s hM30)), (rd_s hL28), ((hfs _ _ (by unfold CD; omega)).trans (rd_n hM30 (by omega) (rd_n hM23 (by omega) h16))).trans (way_0 (fun z => z.1 hww)).symm, fun i hi => ?_, fun b k z => (hfs b k (fun e => z (Or.inr (Or.inr e)))).trans (rd_n hM30 (fun e => z (by unfold PQ; omega)) (rd_n hM23 (fun e => z (by unfold PQ; omega)) (hfx b k z)))⟩
        have hi : i < j + 1 := hi
        rcases (by omega : i < j ∨ i = j) with y | rfl
        · exact (hfs _ _ (by unfold CD; omega)).trans (rd_n hM30 (by omega) (rd_n hM23 (by omega) (h9 i y)))
        · exact ((hfs _ _ (by unfold CD; omega)).trans (rd_n hM30 (by omega) (rd_s hM23)))
  refine JJ.pick [0, 1, 2, 3] rfl ?_
  exact key N 0 M5 L3 (by omega) (by show _ = sr_fin _ _ _ _ _ _ _ (zN B s) 0; rw [hr.zn]) (by rw [zst_0, zPut_C]; exact hct.keep (fun k => ⟨(rd_n hM6 (by omega) (rd_n hM2 (by omega) rfl)), (rd_n hM6 (by omega) (rd_n hM2 (by omega) rfl)), (rd_n hM6 (by omega) (rd_n hM2 (by omega) rfl))⟩) rfl) (rd_n hM6 (by omega) (rd_s hM2)) (rd_s hL4) (rd_s hM6) (fun i hi => absurd hi (Nat.not_lt_zero _)) (fun b k z => (rd_n hM6 (fun e => z (by unfold PQ; omega)) (rd_n hM2 (fun e => z (by unfold PQ; omega)) rfl)))
end C17
