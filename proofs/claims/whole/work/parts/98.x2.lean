section C41
variable {G : Gx} {sc : Nat → Nat → Prop} {n : Nat} {S : Nat → Nat × Nat} {M : Nat → Nat → Int32} {L : Nat → Nat → Int64} {P : Nat → Nat → Option Nat} {x : Nat}
variable {S0 : Nat → Nat × Nat} {M0 : Nat → Nat → Int32} {P0 : Nat → Nat → Option Nat} {Φ : Option Value → Mem → Prop}

set_option maxHeartbeats 4000000 in
set_option maxRecDepth 100000 in
theorem kc_addT {m : Nat} {v : Int32} (hm : M (x + 2) 1 = nI m) (h160 : m < 160) (hC : CWT x S P) (hX : HSC x sc) : KK G sc yX9_add cX9_add 2 (some .boolean) 0 0 0 [.ref (x + 2), .int v] (n, S, M, L, P) (fun u μ => u = some (.int 1) ∧ μ = (n, S, up2 (up2 M (x + 3) m v) (x + 2) 1 (nI (m + 1)), L, P)) := by
  refine KK_of2 [(0, .ref (x + 2)), (1, .int v)] (by decide +kernel) (Nat.le_of_ble_eq_true rfl) rfl ?_
  refine JJ_aload_n dX9_add_0 rfl rfl ?_
  refine JJ_geti (v := nI m) (cis := [9]) (k := 1) fa_X9_15 (by decide) (congrArg Prod.fst (hC.sh (t := 2) (k := 10) (m := 0) (by decide))) rfl (hX.1 _ _ (by omega) (by omega) (by omega)) hm dX9_add_1 ?_
  refine JJ_aload_n dX9_add_4 rfl rfl ?_
  refine JJ_getr (q := x + 3) (cis := [9]) (k := 0) fa_X9_9 (by decide) (congrArg Prod.fst (hC.sh (t := 2) (k := 10) (m := 0) (by decide))) rfl (hC.rf (t := 2) (s := 0) (u := 3) (by decide)) dX9_add_5 ?_
  refine JJ_alen (t := 0) (hC.sh (t := 3) (k := 20) (m := 160) (by decide)) (by decide) dX9_add_8 ?_
  refine JJ_icmp_lt (tgt := 14) dX9_add_9 (by decide) (fun _ => ?_) (fun c1 => absurd (nI_lt1 (by omega) (by omega)) c1)
  refine JJ_aload_n dX9_add_14 rfl rfl ?_
  refine JJ_getr (q := x + 3) (cis := [9]) (k := 0) fa_X9_9 (by decide) (congrArg Prod.fst (hC.sh (t := 2) (k := 10) (m := 0) (by decide))) rfl (hC.rf (t := 2) (s := 0) (u := 3) (by decide)) dX9_add_15 ?_
  refine JJ_aload_n dX9_add_18 rfl rfl ?_
  refine JJ_geti (v := nI m) (cis := [9]) (k := 1) fa_X9_15 (by decide) (congrArg Prod.fst (hC.sh (t := 2) (k := 10) (m := 0) (by decide))) rfl (hX.1 _ _ (by omega) (by omega) (by omega)) hm dX9_add_19 ?_
  refine JJ_iload_n dX9_add_22 rfl rfl ?_
  refine JJ_iastX (hC.sh (t := 3) (k := 20) (m := 160) (by decide)) (IX_nI (by omega) (by omega)) dX9_add_23 (fun M2 hM3 => ?_)
  refine JJ_aload_n dX9_add_24 rfl rfl ?_
  refine JJ_dup dX9_add_25 rfl ?_
  refine JJ_geti (v := nI m) (cis := [9]) (k := 1) fa_X9_15 (by decide) (congrArg Prod.fst (hC.sh (t := 2) (k := 10) (m := 0) (by decide))) rfl (hX.1 _ _ (by omega) (by omega) (by omega)) (rd_n hM3 (by omega) hm) dX9_add_26 ?_
  refine JJ_iconst (v := 1) dX9_add_29 rfl ?_
  refine JJ_iadd dX9_add_30 ?_
  refine JJ_eqi (x2 := nI (m + 1)) (nI_add (m) (1)) ?_
  refine JJ_puti (cis := [9]) (k := 1) fa_X9_15 (by decide) (congrArg Prod.fst (hC.sh (t := 2) (k := 10) (m := 0) (by decide))) rfl (fun r hr => by cases hr; exact ⟨rfl, by decide +kernel⟩) dX9_add_31 (fun M4 hM5 => ?_)
  refine JJ_iconst (v := 1) dX9_add_34 rfl ?_
  refine JJ_zret dX9_add_35 rfl (Or.inr rfl) ?_
  exact ⟨rfl, mem_eq (by rw [hM5, hM3])⟩
set_option maxHeartbeats 4000000 in
set_option maxRecDepth 100000 in
theorem kc_write (hm : M (x + 2) 1 = 0) (hC : CWT x S P) (hX : HSC x sc) : KK G sc yX9_write cX9_write 3 none 7 0 0 [.ref (x + 2), .ref (gK G 0)] (n, S, M, L, P) (fun v μ => v = none ∧ ∃ M', μ = (n, S, M', L, P) ∧ M' (x + 2) 1 = nI 53 ∧ (∀ i, i < 53 → M' (x + 3) i = bRule i) ∧ ∀ a k, ¬ a = x + 3 → ¬ (a = x + 2 ∧ k = 1) → M' a k = M a k) := by
  have hi : 0 < 13 := by decide
  refine KK_of2 [(0, .ref (x + 2)), (1, .ref (gK G 0))] (by decide +kernel) (Nat.le_of_ble_eq_true rfl) rfl ?_
  refine JJ_iconst (v := 0) dX9_write_0 rfl ?_
  refine JJ_istore_n (lv' := [(2, .int 0), (0, .ref (x + 2)), (1, .ref (gK G 0))]) dX9_write_1 rfl (by decide) rfl ?_
  have key : ∀ (d j : Nat) (Mx : Nat → Nat → Int32), j + d = 53 → Mx (x + 2) 1 = nI j → (∀ i, i < j → Mx (x + 3) i = bRule i) → (∀ a k, ¬ a = x + 3 → ¬ (a = x + 2 ∧ k = 1) → Mx a k = M a k) → JJ G sc yX9_write cX9_write 3 none 7 0 0 (fun v μ => v = none ∧ ∃ M', μ = (n, S, M', L, P) ∧ M' (x + 2) 1 = nI 53 ∧ (∀ i, i < 53 → M' (x + 3) i = bRule i) ∧ ∀ a k, ¬ a = x + 3 → ¬ (a = x + 2 ∧ k = 1) → M' a k = M a k) 2 [(2, .int (nI j)), (0, .ref (x + 2)), (1, .ref (gK G 0))] [] (n, S, Mx, L, P) := by
    intro d
    induction d with
    | zero =>
      intro j Mx hj g1 g2 g3
      obtain rfl : j = 53 := by omega
      refine JJ_iload_n dX9_write_2 rfl rfl ?_
      refine JJ_aload_n dX9_write_3 rfl rfl ?_
      refine JJ_callVs (rest := [.int (nI 53)]) hi rfl (ks_length (i := 0) hi) (by omega) mi_J0_length_8abf5 lk_X9_38 rfl (Nat.le_of_ble_eq_true rfl) rfl rfl dX9_write_4 ?_
      intro v1 μ2 h3
      obtain ⟨rfl, rfl⟩ := h3
      refine JJ_r1 ?_
      refine JJ_eqi (x2 := nI 53) rfl ?_
      refine JJ_icmp_ge (tgt := 26) dX9_write_7 (by decide) (fun _ => ?_) (fun c4 => absurd (by decide) c4)
      refine JJ_vret dX9_write_26 rfl ?_
      exact ⟨rfl, Mx, rfl, g1, g2, g3⟩
    | succ d ih =>
      intro j Mx hj g1 g2 g3
      refine JJ_iload_n dX9_write_2 rfl rfl ?_
      refine JJ_aload_n dX9_write_3 rfl rfl ?_
      refine JJ_callVs (rest := [.int (nI j)]) hi rfl (ks_length (i := 0) hi) (by omega) mi_J0_length_8abf5 lk_X9_38 rfl (Nat.le_of_ble_eq_true rfl) rfl rfl dX9_write_4 ?_
      intro v5 μ6 h7
      obtain ⟨rfl, rfl⟩ := h7
      refine JJ_r1 ?_
      refine JJ_eqi (x2 := nI 53) rfl ?_
      refine JJ_icmp_ge (tgt := 26) dX9_write_7 (by decide) (fun c8 => absurd c8 (nI_ge (b := 53) (by omega) (by omega))) (fun _ => ?_)
      refine JJ_aload_n dX9_write_10 rfl rfl ?_
      refine JJ_aload_n dX9_write_11 rfl rfl ?_
      refine JJ_iload_n dX9_write_12 rfl rfl ?_
      refine JJ_callVs (rest := [.ref (x + 2)]) hi rfl (ks_char (i := 0) (k := j) hi (by show j < 53; omega)) (by omega) mi_J0_charAt_5068e lk_X9_44 rfl (Nat.le_of_ble_eq_true rfl) rfl rfl dX9_write_13 ?_
      intro v9 μ10 h11
      obtain ⟨rfl, rfl⟩ := h11
      refine JJ_r1 ?_
      refine JJ_callV (rest := []) (congrArg Prod.fst (hC.sh (t := 2) (k := 10) (m := 0) (by decide))) rfl rfl (kc_addT (m := j) (v := ((bytS.getD 0 []).getD j 0)) g1 (by omega) hC hX) (by omega) mi_X9_add lk_X9_48 rfl (Nat.le_of_ble_eq_true rfl) rfl rfl dX9_write_16 ?_
      intro v12 μ13 h14
      obtain ⟨rfl, rfl⟩ := h14
      refine JJ_r1 ?_
      refine JJ_pop dX9_write_19 rfl ?_
      refine JJ_iinc (v := nI (j + 1)) (lv' := [(2, .int (nI (j + 1))), (0, .ref (x + 2)), (1, .ref (gK G 0))]) dX9_write_20 rfl (nI_add (j) 1) (by decide) rfl ?_
      refine JJ_goto (tgt := 2) dX9_write_23 (by decide) ?_
      refine JJ.pick [0, 1, 2] rfl ?_
      refine ih (j + 1) _ (by omega) up2_s (fun i hi => ?_) (fun a k z1 z2 => (up2_n z2).trans ((up2_n (fun e => z1 e.1)).trans (g3 a k z1 z2)))
      by_cases ej : i = j
      · rw [ej, up2_n (by omega), up2_s]; exact rl_b j (by omega)
      · rw [up2_n (by omega), up2_n (by omega)]; exact g2 i (by omega)
  refine JJ.pick [0, 1, 2] rfl ?_
  exact key 53 0 M (by omega) hm (fun i hi => absurd hi (Nat.not_lt_zero _)) (fun _ _ _ _ => rfl)
set_option maxHeartbeats 4000000 in
set_option maxRecDepth 100000 in
theorem ini_sheets (hX : HSC x sc) (hΦ : ∀ (S : Nat → Nat × Nat) (M : Nat → Nat → Int32) (L : Nat → Nat → Int64) (P : Nat → Nat → Option Nat), INB x S0 M0 P0 S M P → CIN x S M P → Φ none (x + 75, S, M, L, P)) : ∀ (d i kc ks : Nat) (S : Nat → Nat × Nat) (M : Nat → Nat → Int32) (L : Nat → Nat → Int64) (P : Nat → Nat → Option Nat), i + d = 4 → kc = 2 * d → ks = 43 * d → INB x S0 M0 P0 S M P → TI x 6 S M P → CI x 9 S P → AI x 6 P → C0F x M P → TXC (x + 10) M (zSay bRule 56) → SI x i S M P → JJ G sc yX11_init cX11_init 2 none 58 kc ks Φ 260 [(1, .int (nI i)), (0, .ref x)] [] (x + 67 + 2 * i, S, M, L, P) := by
  intro d
  induction d with
  | zero =>
    intro i kc ks S M L P hi hkc hks hB hT hC hA h0 hX0 hS
    obtain rfl : i = 4 := by omega
    refine JJ_iload_n dX11_init_260 rfl rfl ?_
    refine JJ_iconst (v := 4) dX11_init_261 rfl ?_
    refine JJ_icmp_ge (tgt := 284) dX11_init_262 (by decide) (fun _ => ?_) (fun c1 => absurd (by decide) c1)
    refine JJ_vret dX11_init_284 rfl ?_
    exact hΦ S M L P hB (CIN_of hB hT hC hA hS h0 hX0)
  | succ d ih =>
    intro i kc ks S M L P hi hkc hks hB hT hC hA h0 hX0 hS
    refine JJ_iload_n dX11_init_260 rfl rfl ?_
    refine JJ_iconst (v := 4) dX11_init_261 rfl ?_
    refine JJ_icmp_ge (tgt := 284) dX11_init_262 (by decide) (fun c2 => absurd c2 (nI_ge (b := 4) (by omega) (by omega))) (fun _ => ?_)
    refine JJ_aload_n dX11_init_265 rfl rfl ?_
    refine JJ_getr (q := x + 8) (cis := [11]) (k := 12) fa_X11_53 (by decide) (congrArg Prod.fst (hB.sh (t := 0) (k := 12) (m := 0) (by decide))) rfl (hB.rf (t := 0) (s := 12) (u := 8) (by decide)) dX11_init_266 ?_
    refine JJ_iload_n dX11_init_269 rfl rfl ?_
    refine JJ_new (ci := 7) (kc' := 2 * d + 1) (ks' := 43 * d + 40) rfl tb_133 tb_372 tb_75 (by omega) (by show 43 * d + 40 + 3 = ks; omega) dX11_init_270 ?_
    refine JJ_gn (n1 := x + 67 + 2 * i + 1) rfl (fun Sa Ma La Pa hSa hMa hLa hPa => ?_)
    refine JJ_dup dX11_init_273 rfl ?_
    refine JJ_callIN (kc' := 2 * d) (ks' := 43 * d) (rest := [.ref (x + 67 + 2 * i), .int (nI i), .ref (x + 8)]) rfl (kc_Sinit (a := x + 67 + 2 * i) (n2 := x + 67 + 2 * (i + 1)) (gS_s hSa) (by omega)) (by omega) mi_X7_init lk_X11_107 rfl (Nat.le_of_ble_eq_true rfl) (by omega) (by omega) dX11_init_274 ?_
    intro v3 μ4 h5
    obtain ⟨rfl, Sb, Mb, Lb, Pb, rfl, s1, p1, m1, fS, fP, fM⟩ := h5
    refine JJ_r0 ?_
    refine JJ_aastX (t := 3) ((fS _ (by omega)).trans (gS_n hSa (by omega) (hB.sh (t := 8) (k := 25) (m := 4) (by decide)))) (by decide) (IX_nI (by omega) (by omega)) (congrArg Prod.fst ((fS _ (Nat.le_refl _)).trans (gS_s hSa))) rfl (Or.inl rfl) dX11_init_277 (fun P6 hP7 => ?_)
    refine JJ_iinc (v := nI (i + 1)) (lv' := [(1, .int (nI (i + 1))), (0, .ref x)]) dX11_init_278 rfl (nI_add (i) 1) (by decide) rfl ?_
    refine JJ_goto (tgt := 260) dX11_init_281 (by decide) ?_
    refine JJ.pick [0, 1] rfl ?_
    have gS : ∀ b, b < x + 67 + 2 * i → Sb b = S b := fun b z => (fS b (by omega)).trans (gS_n hSa (by omega) rfl)
    have gP : ∀ b k, b < x + 67 + 2 * i → ¬ (b = x + 8 ∧ k = i) → P6 b k = P b k := fun b k z z2 => rd_n hP7 z2 ((fP b k z).trans (gR_n hPa (by omega) rfl))
    have gM : ∀ b k, b < x + 67 + 2 * i → Mb b k = M b k := fun b k z => (fM b k z).trans (gR_n hMa (by omega) rfl)
    have hS2 : SI x (i + 1) Sb Mb P6 := by
      intro j hj
      by_cases ej : j = i
      · rw [ej]; exact ⟨⟨(fS _ (Nat.le_refl _)).trans (gS_s hSa), s1⟩, rd_n hP7 (by omega) p1, rd_s hP7, m1⟩
      · exact hS.keep (fun b z1 z2 => gS b z2) (fun b k z1 z2 => gP b k z2 (by omega)) (fun k hk => gP _ _ (by omega) (by omega)) (fun b k z1 z2 => gM b k z2) j (by omega)
    exact ih (i + 1) _ _ Sb Mb Lb P6 (by omega) rfl rfl (hB.keep (fun b z => gS b (by omega)) (fun b k z z1 z2 z3 => gP b k (by omega) (by omega)) (fun b k z z1 z2 => gM b k (by omega)) ((gM _ _ (by omega)).trans hB.2.2.1.2.2.2)) (hT.keep (fun b z1 z2 => gS b (by omega)) (fun b k z1 z2 => gP b k (by omega) (by omega)) (fun k hk => gP _ _ (by omega) (by omega)) (fun j hj => gM _ _ (by omega))) (hC.keep (fun b z1 z2 => gS b (by omega)) (fun b k z1 z2 => gP b k (by omega) (by omega))) (fun j hj => (gP _ _ (by omega) (by omega)).trans (hA j hj)) (h0.keep (fun b k z1 z2 => gM b k (by omega)) (gP _ _ (by omega) (by omega)) (fun k => gP _ _ (by omega) (by omega))) (hX0.keep (fun k => gM _ _ (by omega)) (fun k => gM _ _ (by omega))) hS2
set_option maxHeartbeats 4000000 in
set_option maxRecDepth 100000 in
theorem ini_ahead (hX : HSC x sc) (hΦ : ∀ (S : Nat → Nat × Nat) (M : Nat → Nat → Int32) (L : Nat → Nat → Int64) (P : Nat → Nat → Option Nat), INB x S0 M0 P0 S M P → CIN x S M P → Φ none (x + 75, S, M, L, P)) : ∀ (d i kc ks : Nat) (S : Nat → Nat × Nat) (M : Nat → Nat → Int32) (L : Nat → Nat → Int64) (P : Nat → Nat → Option Nat), i + d = 6 → kc = 8 + 3 * d → ks = 172 + 12 * d → INB x S0 M0 P0 S M P → TI x 6 S M P → CI x (3 + i) S P → AI x i P → C0F x M P → TXC (x + 10) M (zSay bRule 56) → JJ G sc yX11_init cX11_init 2 none 58 kc ks Φ 228 [(1, .int (nI i)), (0, .ref x)] [] (x + 49 + 3 * i, S, M, L, P) := by
  intro d
  induction d with
  | zero =>
    intro i kc ks S M L P hi hkc hks hB hT hC hA h0 hX0
    obtain rfl : i = 6 := by omega
    refine JJ_iload_n dX11_init_228 rfl rfl ?_
    refine JJ_iconst (v := 5) dX11_init_229 rfl ?_
    refine JJ_icmp_gt (tgt := 258) dX11_init_230 (by decide) (fun _ => ?_) (fun c1 => absurd (by decide) c1)
    refine JJ_iconst (v := 0) dX11_init_258 rfl ?_
    refine JJ_istore_n (lv' := [(1, .int 0), (0, .ref x)]) dX11_init_259 rfl (by decide) rfl ?_
    refine JJ.pick [0, 1] rfl ?_
    exact ini_sheets hX hΦ 4 0 kc ks S M L P rfl (by omega) (by omega) hB hT hC hA h0 hX0 (fun j hj => absurd hj (Nat.not_lt_zero _))
  | succ d ih =>
    intro i kc ks S M L P hi hkc hks hB hT hC hA h0 hX0
    refine JJ_iload_n dX11_init_228 rfl rfl ?_
    refine JJ_iconst (v := 5) dX11_init_229 rfl ?_
    refine JJ_icmp_gt (tgt := 258) dX11_init_230 (by decide) (fun c2 => absurd c2 (i_nlt (nI_le (b := 5) (by omega) (by omega)))) (fun _ => ?_)
    refine JJ_aload_n dX11_init_233 rfl rfl ?_
    refine JJ_getr (q := x + 5) (cis := [11]) (k := 7) fa_X11_37 (by decide) (congrArg Prod.fst (hB.sh (t := 0) (k := 12) (m := 0) (by decide))) rfl (hB.rf (t := 0) (s := 7) (u := 5) (by decide)) dX11_init_234 ?_
    refine JJ_iload_n dX11_init_237 rfl rfl ?_
    refine JJ_new (ci := 1) (kc' := 8 + 3 * d + 2) (ks' := 172 + 12 * d + 8) rfl tb_131 tb_323 tb_73 (by omega) (by show 172 + 12 * d + 8 + 4 = ks; omega) dX11_init_238 ?_
    refine JJ_gn (n1 := x + 49 + 3 * i + 1) rfl (fun Sa Ma La Pa hSa hMa hLa hPa => ?_)
    refine JJ_dup dX11_init_241 rfl ?_
    refine JJ_aload_n dX11_init_242 rfl rfl ?_
    refine JJ_getr (q := x + 1) (cis := [11]) (k := 0) fa_X11_11 (by decide) (congrArg Prod.fst (gS_n hSa (by omega) (hB.sh (t := 0) (k := 12) (m := 0) (by decide)))) rfl (gR_n hPa (by omega) (hB.rf (t := 0) (s := 0) (u := 1) (by decide))) dX11_init_243 ?_
    refine JJ_iconst (v := 0) dX11_init_246 rfl ?_
    refine JJ_aaldX (t := 0) (q := x + 10) (gS_n hSa (by omega) (hB.sh (t := 1) (k := 22) (m := 6) (by decide))) (by decide) (IX_of (j := 0) rfl (by decide) (by decide)) (gR_n hPa (by omega) (hT 0 (by decide)).2.2.1) dX11_init_247 ?_
    refine JJ_callI (kc' := 8 + 3 * d) (ks' := 172 + 12 * d) (rest := [.ref (x + 49 + 3 * i), .int (nI i), .ref (x + 5)]) rfl (kc_Cinit (c := x + 49 + 3 * i) (t := x + 10) (n2 := x + 49 + 3 * (i + 1)) (gS_s hSa) (by omega)) (by omega) mi_X1_init lk_X11_94 rfl (Nat.le_of_ble_eq_true rfl) (by omega) (by omega) dX11_init_248 ?_
    intro v3 μ4 h5
    obtain ⟨rfl, Sb, Mb, Lb, Pb, rfl, ⟨s1, s2⟩, ⟨p0, p1, p3⟩, m1, v1, v2, fS, fP, fM⟩ := h5
    refine JJ_r0 ?_
    refine JJ_aastX (t := 2) ((fS _ (by omega)).trans (gS_n hSa (by omega) (hB.sh (t := 5) (k := 24) (m := 6) (by decide)))) (by decide) (IX_nI (by omega) (by omega)) (congrArg Prod.fst ((fS _ (Nat.le_refl _)).trans (gS_s hSa))) rfl (Or.inl rfl) dX11_init_251 (fun P6 hP7 => ?_)
    refine JJ_iinc (v := nI (i + 1)) (lv' := [(1, .int (nI (i + 1))), (0, .ref x)]) dX11_init_252 rfl (nI_add (i) 1) (by decide) rfl ?_
    refine JJ_goto (tgt := 228) dX11_init_255 (by decide) ?_
    refine JJ.pick [0, 1] rfl ?_
    have gS : ∀ b, b < x + 49 + 3 * i → Sb b = S b := fun b z => (fS b (by omega)).trans (gS_n hSa (by omega) rfl)
    have gP : ∀ b k, b < x + 49 + 3 * i → ¬ (b = x + 5 ∧ k = i) → P6 b k = P b k := fun b k z z2 => rd_n hP7 z2 ((fP b k z).trans (gR_n hPa (by omega) rfl))
    have gM : ∀ b k, b < x + 49 + 3 * i → Mb b k = M b k := fun b k z => (fM b k z).trans (gR_n hMa (by omega) rfl)
    have hC2 : CI x (3 + (i + 1)) Sb P6 := by
      intro j hj
      by_cases ej : j = 3 + i
      · have ea : x + 40 + 3 * j = x + 49 + 3 * i := by omega
        rw [ea]
        exact ⟨⟨(fS _ (Nat.le_refl _)).trans (gS_s hSa), s1, s2⟩, rd_n hP7 (by omega) p0, rd_n hP7 (by omega) p1⟩
      · exact hC.keep (fun b z1 z2 => gS b (by omega)) (fun b k z1 z2 => gP b k (by omega) (by omega)) j (by omega)
    have hA2 : AI x (i + 1) P6 := by
      intro j hj
      by_cases ej : j = i
      · rw [ej]; exact rd_s hP7
      · exact (gP _ _ (by omega) (by omega)).trans (hA j (by omega))
    exact ih (i + 1) _ _ Sb Mb Lb P6 (by omega) rfl rfl (hB.keep (fun b z => gS b (by omega)) (fun b k z z1 z2 z3 => gP b k (by omega) (by omega)) (fun b k z z1 z2 => gM b k (by omega)) ((gM _ _ (by omega)).trans hB.2.2.1.2.2.2)) (hT.keep (fun b z1 z2 => gS b (by omega)) (fun b k z1 z2 => gP b k (by omega) (by omega)) (fun k hk => gP _ _ (by omega) (by omega)) (fun j hj => gM _ _ (by omega))) hC2 hA2 (h0.keep (fun b k z1 z2 => gM b k (by omega)) (gP _ _ (by omega) (by omega)) (fun k => gP _ _ (by omega) (by omega))) (hX0.keep (fun k => gM _ _ (by omega)) (fun k => gM _ _ (by omega)))
set_option maxHeartbeats 4000000 in
set_option maxRecDepth 100000 in
theorem ini_courts (hX : HSC x sc) (hΦ : ∀ (S : Nat → Nat × Nat) (M : Nat → Nat → Int32) (L : Nat → Nat → Int64) (P : Nat → Nat → Option Nat), INB x S0 M0 P0 S M P → CIN x S M P → Φ none (x + 75, S, M, L, P)) (hB : INB x S0 M0 P0 S M P) (hT : TI x 6 S M P) (hX0 : TXC (x + 10) M (zSay bRule 56)) : JJ G sc yX11_init cX11_init 2 none 58 35 280 Φ 175 [(1, .int (nI 6)), (0, .ref x)] [] (x + 40, S, M, L, P) := by
  refine JJ_aload_n dX11_init_175 rfl rfl ?_
  refine JJ_new (ci := 1) (kc' := 34) (ks' := 276) rfl tb_131 tb_323 tb_73 rfl rfl dX11_init_176 ?_
  refine JJ_gn (n1 := x + 40 + 1) rfl (fun Sa0 Ma0 La0 Pa0 hSa0 hMa0 hLa0 hPa0 => ?_)
  refine JJ_dup dX11_init_179 rfl ?_
  refine JJ_aload_n dX11_init_180 rfl rfl ?_
  refine JJ_getr (q := x + 1) (cis := [11]) (k := 0) fa_X11_11 (by decide) (congrArg Prod.fst (gS_n hSa0 (by omega) (hB.sh (t := 0) (k := 12) (m := 0) (by decide)))) rfl (gR_n hPa0 (by omega) (hB.rf (t := 0) (s := 0) (u := 1) (by decide))) dX11_init_181 ?_
  refine JJ_iconst (v := 0) dX11_init_184 rfl ?_
  refine JJ_aaldX (t := 0) (q := x + 10) (gS_n hSa0 (by omega) (hB.sh (t := 1) (k := 22) (m := 6) (by decide))) (by decide) (IX_of (j := 0) rfl (by decide) (by decide)) (gR_n hPa0 (by omega) (hT 0 (by decide)).2.2.1) dX11_init_185 ?_
  refine JJ_callI (rest := [.ref (x + 40), .ref x]) rfl (kc_Cinit (c := x + 40) (t := x + 10) (n2 := x + 43) (gS_s hSa0) rfl) (by omega) mi_X1_init lk_X11_94 rfl (Nat.le_of_ble_eq_true rfl) rfl rfl dX11_init_186 ?_
  intro v1 μ2 h3
  obtain ⟨rfl, Sb0, Mb0, Lb0, Pb0, rfl, ⟨s10, s20⟩, ⟨p00, p10, p30⟩, m10, v10, v20, fS0, fP0, fM0⟩ := h3
  refine JJ_r0 ?_
  refine JJ_putFr (ty := .object "MiddleOfCourt$Court") (cis := [11]) (k := 5) fa_X11_97 (by decide) (congrArg Prod.fst ((fS0 _ (by omega)).trans (gS_n hSa0 (by omega) (hB.sh (t := 0) (k := 12) (m := 0) (by decide))))) rfl (fun r hr => by cases hr; exact ⟨⟨rfl, rfl⟩, by decide +kernel⟩) rfl rfl rfl dX11_init_189 (fun P4 hP5 => ?_)
  refine JJ_aload_n dX11_init_192 rfl rfl ?_
  refine JJ_new (ci := 1) (kc' := 31) (ks' := 264) rfl tb_131 tb_323 tb_73 rfl rfl dX11_init_193 ?_
  refine JJ_gn (n1 := x + 43 + 1) rfl (fun Sa1 Ma1 La1 Pa1 hSa1 hMa1 hLa1 hPa1 => ?_)
  refine JJ_dup dX11_init_196 rfl ?_
  refine JJ_aload_n dX11_init_197 rfl rfl ?_
  refine JJ_getr (q := x + 1) (cis := [11]) (k := 0) fa_X11_11 (by decide) (congrArg Prod.fst (gS_n hSa1 (by omega) ((fS0 _ (by omega)).trans (gS_n hSa0 (by omega) (hB.sh (t := 0) (k := 12) (m := 0) (by decide)))))) rfl (gR_n hPa1 (by omega) (rd_n hP5 (by omega) ((fP0 _ _ (by omega)).trans (gR_n hPa0 (by omega) (hB.rf (t := 0) (s := 0) (u := 1) (by decide)))))) dX11_init_198 ?_
  refine JJ_iconst (v := 0) dX11_init_201 rfl ?_
  refine JJ_aaldX (t := 0) (q := x + 10) (gS_n hSa1 (by omega) ((fS0 _ (by omega)).trans (gS_n hSa0 (by omega) (hB.sh (t := 1) (k := 22) (m := 6) (by decide))))) (by decide) (IX_of (j := 0) rfl (by decide) (by decide)) (gR_n hPa1 (by omega) (rd_n hP5 (by omega) ((fP0 _ _ (by omega)).trans (gR_n hPa0 (by omega) (hT 0 (by decide)).2.2.1)))) dX11_init_202 ?_
  refine JJ_callI (rest := [.ref (x + 43), .ref x]) rfl (kc_Cinit (c := x + 43) (t := x + 10) (n2 := x + 46) (gS_s hSa1) rfl) (by omega) mi_X1_init lk_X11_94 rfl (Nat.le_of_ble_eq_true rfl) rfl rfl dX11_init_203 ?_
  intro v6 μ7 h8
  obtain ⟨rfl, Sb1, Mb1, Lb1, Pb1, rfl, ⟨s11, s21⟩, ⟨p01, p11, p31⟩, m11, v11, v21, fS1, fP1, fM1⟩ := h8
  refine JJ_r0 ?_
  refine JJ_putFr (ty := .object "MiddleOfCourt$Court") (cis := [11]) (k := 6) fa_X11_101 (by decide) (congrArg Prod.fst ((fS1 _ (by omega)).trans (gS_n hSa1 (by omega) ((fS0 _ (by omega)).trans (gS_n hSa0 (by omega) (hB.sh (t := 0) (k := 12) (m := 0) (by decide))))))) rfl (fun r hr => by cases hr; exact ⟨⟨rfl, rfl⟩, by decide +kernel⟩) rfl rfl rfl dX11_init_206 (fun P9 hP10 => ?_)
  refine JJ_aload_n dX11_init_209 rfl rfl ?_
  refine JJ_new (ci := 1) (kc' := 28) (ks' := 252) rfl tb_131 tb_323 tb_73 rfl rfl dX11_init_210 ?_
  refine JJ_gn (n1 := x + 46 + 1) rfl (fun Sa2 Ma2 La2 Pa2 hSa2 hMa2 hLa2 hPa2 => ?_)
  refine JJ_dup dX11_init_213 rfl ?_
  refine JJ_aload_n dX11_init_214 rfl rfl ?_
  refine JJ_getr (q := x + 1) (cis := [11]) (k := 0) fa_X11_11 (by decide) (congrArg Prod.fst (gS_n hSa2 (by omega) ((fS1 _ (by omega)).trans (gS_n hSa1 (by omega) ((fS0 _ (by omega)).trans (gS_n hSa0 (by omega) (hB.sh (t := 0) (k := 12) (m := 0) (by decide)))))))) rfl (gR_n hPa2 (by omega) (rd_n hP10 (by omega) ((fP1 _ _ (by omega)).trans (gR_n hPa1 (by omega) (rd_n hP5 (by omega) ((fP0 _ _ (by omega)).trans (gR_n hPa0 (by omega) (hB.rf (t := 0) (s := 0) (u := 1) (by decide))))))))) dX11_init_215 ?_
  refine JJ_iconst (v := 0) dX11_init_218 rfl ?_
  refine JJ_aaldX (t := 0) (q := x + 10) (gS_n hSa2 (by omega) ((fS1 _ (by omega)).trans (gS_n hSa1 (by omega) ((fS0 _ (by omega)).trans (gS_n hSa0 (by omega) (hB.sh (t := 1) (k := 22) (m := 6) (by decide))))))) (by decide) (IX_of (j := 0) rfl (by decide) (by decide)) (gR_n hPa2 (by omega) (rd_n hP10 (by omega) ((fP1 _ _ (by omega)).trans (gR_n hPa1 (by omega) (rd_n hP5 (by omega) ((fP0 _ _ (by omega)).trans (gR_n hPa0 (by omega) (hT 0 (by decide)).2.2.1))))))) dX11_init_219 ?_
  refine JJ_callI (rest := [.ref (x + 46), .ref x]) rfl (kc_Cinit (c := x + 46) (t := x + 10) (n2 := x + 49) (gS_s hSa2) rfl) (by omega) mi_X1_init lk_X11_94 rfl (Nat.le_of_ble_eq_true rfl) rfl rfl dX11_init_220 ?_
  intro v11 μ12 h13
  obtain ⟨rfl, Sb2, Mb2, Lb2, Pb2, rfl, ⟨s12, s22⟩, ⟨p02, p12, p32⟩, m12, v12, v22, fS2, fP2, fM2⟩ := h13
  refine JJ_r0 ?_
  refine JJ_putFr (ty := .object "MiddleOfCourt$Court") (cis := [11]) (k := 8) fa_X11_104 (by decide) (congrArg Prod.fst ((fS2 _ (by omega)).trans (gS_n hSa2 (by omega) ((fS1 _ (by omega)).trans (gS_n hSa1 (by omega) ((fS0 _ (by omega)).trans (gS_n hSa0 (by omega) (hB.sh (t := 0) (k := 12) (m := 0) (by decide))))))))) rfl (fun r hr => by cases hr; exact ⟨⟨rfl, rfl⟩, by decide +kernel⟩) rfl rfl rfl dX11_init_223 (fun P14 hP15 => ?_)
  refine JJ_iconst (v := 0) dX11_init_226 rfl ?_
  refine JJ_istore_n (lv' := [(1, .int 0), (0, .ref x)]) dX11_init_227 rfl (by decide) rfl ?_
  refine JJ.pick [0, 1] rfl ?_
  have gS : ∀ b, b < x + 40 → Sb2 b = S b := fun b z => ((fS2 _ (by omega)).trans (gS_n hSa2 (by omega) ((fS1 _ (by omega)).trans (gS_n hSa1 (by omega) ((fS0 _ (by omega)).trans (gS_n hSa0 (by omega) rfl))))))
  have gP : ∀ b k, b < x + 40 → ¬ (b = x ∧ (k = 5 ∨ k = 6 ∨ k = 8)) → P14 b k = P b k := fun b k z z2 => (rd_n hP15 (by omega) ((fP2 _ _ (by omega)).trans (gR_n hPa2 (by omega) (rd_n hP10 (by omega) ((fP1 _ _ (by omega)).trans (gR_n hPa1 (by omega) (rd_n hP5 (by omega) ((fP0 _ _ (by omega)).trans (gR_n hPa0 (by omega) rfl)))))))))
  have gM : ∀ b k, b < x + 40 → Mb2 b k = M b k := fun b k z => ((fM2 _ _ (by omega)).trans (gR_n hMa2 (by omega) ((fM1 _ _ (by omega)).trans (gR_n hMa1 (by omega) ((fM0 _ _ (by omega)).trans (gR_n hMa0 (by omega) rfl))))))
  have hC2 : CI x (3 + 0) Sb2 P14 := by
    intro j hj
    match j, hj with
    | 0, _ => exact ⟨⟨((fS2 _ (by omega)).trans (gS_n hSa2 (by omega) ((fS1 _ (by omega)).trans (gS_n hSa1 (by omega) ((fS0 _ (by omega)).trans (gS_s hSa0)))))), ((fS2 _ (by omega)).trans (gS_n hSa2 (by omega) ((fS1 _ (by omega)).trans (gS_n hSa1 (by omega) s10)))), ((fS2 _ (by omega)).trans (gS_n hSa2 (by omega) ((fS1 _ (by omega)).trans (gS_n hSa1 (by omega) s20))))⟩, (rd_n hP15 (by omega) ((fP2 _ _ (by omega)).trans (gR_n hPa2 (by omega) (rd_n hP10 (by omega) ((fP1 _ _ (by omega)).trans (gR_n hPa1 (by omega) (rd_n hP5 (by omega) p00))))))), (rd_n hP15 (by omega) ((fP2 _ _ (by omega)).trans (gR_n hPa2 (by omega) (rd_n hP10 (by omega) ((fP1 _ _ (by omega)).trans (gR_n hPa1 (by omega) (rd_n hP5 (by omega) p10)))))))⟩
    | 1, _ => exact ⟨⟨((fS2 _ (by omega)).trans (gS_n hSa2 (by omega) ((fS1 _ (by omega)).trans (gS_s hSa1)))), ((fS2 _ (by omega)).trans (gS_n hSa2 (by omega) s11)), ((fS2 _ (by omega)).trans (gS_n hSa2 (by omega) s21))⟩, (rd_n hP15 (by omega) ((fP2 _ _ (by omega)).trans (gR_n hPa2 (by omega) (rd_n hP10 (by omega) p01)))), (rd_n hP15 (by omega) ((fP2 _ _ (by omega)).trans (gR_n hPa2 (by omega) (rd_n hP10 (by omega) p11))))⟩
    | 2, _ => exact ⟨⟨((fS2 _ (by omega)).trans (gS_s hSa2)), s12, s22⟩, (rd_n hP15 (by omega) p02), (rd_n hP15 (by omega) p12)⟩
  have h02 : C0F x Mb2 P14 := ⟨⟨((fM2 _ _ (by omega)).trans (gR_n hMa2 (by omega) ((fM1 _ _ (by omega)).trans (gR_n hMa1 (by omega) v10.1)))), ((fM2 _ _ (by omega)).trans (gR_n hMa2 (by omega) ((fM1 _ _ (by omega)).trans (gR_n hMa1 (by omega) v10.2.1)))), ((fM2 _ _ (by omega)).trans (gR_n hMa2 (by omega) ((fM1 _ _ (by omega)).trans (gR_n hMa1 (by omega) v10.2.2.1)))), ((fM2 _ _ (by omega)).trans (gR_n hMa2 (by omega) ((fM1 _ _ (by omega)).trans (gR_n hMa1 (by omega) v10.2.2.2))))⟩, ⟨((fM2 _ _ (by omega)).trans (gR_n hMa2 (by omega) ((fM1 _ _ (by omega)).trans (gR_n hMa1 (by omega) v20.1)))), ((fM2 _ _ (by omega)).trans (gR_n hMa2 (by omega) ((fM1 _ _ (by omega)).trans (gR_n hMa1 (by omega) v20.2.1)))), ((fM2 _ _ (by omega)).trans (gR_n hMa2 (by omega) ((fM1 _ _ (by omega)).trans (gR_n hMa1 (by omega) v20.2.2.1)))), ((fM2 _ _ (by omega)).trans (gR_n hMa2 (by omega) ((fM1 _ _ (by omega)).trans (gR_n hMa1 (by omega) v20.2.2.2))))⟩, ((fM2 _ _ (by omega)).trans (gR_n hMa2 (by omega) ((fM1 _ _ (by omega)).trans (gR_n hMa1 (by omega) m10)))), (rd_n hP15 (by omega) ((fP2 _ _ (by omega)).trans (gR_n hPa2 (by omega) (rd_n hP10 (by omega) ((fP1 _ _ (by omega)).trans (gR_n hPa1 (by omega) (rd_n hP5 (by omega) p30))))))), (rd_n hP15 (by omega) ((fP2 _ _ (by omega)).trans (gR_n hPa2 (by omega) (rd_n hP10 (by omega) ((fP1 _ _ (by omega)).trans (gR_n hPa1 (by omega) (rd_s hP5))))))), (rd_n hP15 (by omega) ((fP2 _ _ (by omega)).trans (gR_n hPa2 (by omega) (rd_s hP10)))), (rd_s hP15)⟩
  exact ini_ahead hX hΦ 6 0 26 244 Sb2 Mb2 _ P14 rfl rfl rfl (hB.keep (fun b z => gS b (by omega)) (fun b k z z1 z2 z3 => gP b k (by omega) (by omega)) (fun b k z z1 z2 => gM b k (by omega)) ((gM _ _ (by omega)).trans hB.2.2.1.2.2.2)) (hT.keep (fun b z1 z2 => gS b (by omega)) (fun b k z1 z2 => gP b k (by omega) (by omega)) (fun k hk => gP _ _ (by omega) (by omega)) (fun j hj => gM _ _ (by omega))) hC2 (fun j hj => absurd hj (Nat.not_lt_zero _)) h02 (hX0.keep (fun k => gM _ _ (by omega)) (fun k => gM _ _ (by omega)))
set_option maxHeartbeats 4000000 in
set_option maxRecDepth 100000 in
theorem ini_rule (hX : HSC x sc) (hΦ : ∀ (S : Nat → Nat × Nat) (M : Nat → Nat → Int32) (L : Nat → Nat → Int64) (P : Nat → Nat → Option Nat), INB x S0 M0 P0 S M P → CIN x S M P → Φ none (x + 75, S, M, L, P)) (hB : INB x S0 M0 P0 S M P) (hT : TI x 6 S M P) : JJ G sc yX11_init cX11_init 2 none 58 35 280 Φ 144 [(1, .int (nI 6)), (0, .ref x)] [] (x + 40, S, M, L, P) := by
  have hC : CWT x S P := hB.cwt hT
  refine JJ_aload_n dX11_init_144 rfl rfl ?_
  refine JJ_getr (q := x + 2) (cis := [11]) (k := 1) fa_X11_18 (by decide) (congrArg Prod.fst (hB.sh (t := 0) (k := 12) (m := 0) (by decide))) rfl (hB.rf (t := 0) (s := 1) (u := 2) (by decide)) dX11_init_145 ?_
  refine JJ_ldcS (i := 0) dX11_init_148 (by decide) rfl ?_
  refine JJ_callV (rest := []) (congrArg Prod.fst (hB.sh (t := 2) (k := 10) (m := 0) (by decide))) rfl rfl (kc_write hB.2.2.1.2.2.2 hC hX) (by omega) mi_X9_write lk_X11_83 rfl (Nat.le_of_ble_eq_true rfl) rfl rfl dX11_init_150 ?_
  intro v1 μ2 h3
  obtain ⟨rfl, Mb, rfl, w1, w2, w3⟩ := h3
  refine JJ_r0 ?_
  refine JJ_aload_n dX11_init_153 rfl rfl ?_
  refine JJ_getr (q := x + 2) (cis := [11]) (k := 1) fa_X11_18 (by decide) (congrArg Prod.fst (hB.sh (t := 0) (k := 12) (m := 0) (by decide))) rfl (hB.rf (t := 0) (s := 1) (u := 2) (by decide)) dX11_init_154 ?_
  refine JJ_aload_n dX11_init_157 rfl rfl ?_
  refine JJ_getr (q := x + 1) (cis := [11]) (k := 0) fa_X11_11 (by decide) (congrArg Prod.fst (hB.sh (t := 0) (k := 12) (m := 0) (by decide))) rfl (hB.rf (t := 0) (s := 0) (u := 1) (by decide)) dX11_init_158 ?_
  refine JJ_iconst (v := 0) dX11_init_161 rfl ?_
  refine JJ_aaldX (t := 0) (q := x + 10) (hB.sh (t := 1) (k := 22) (m := 6) (by decide)) (by decide) (IX_of (j := 0) rfl (by decide) (by decide)) (hT 0 (by decide)).2.2.1 dX11_init_162 ?_
  refine JJ_callV (rest := []) (congrArg Prod.fst (hB.sh (t := 2) (k := 10) (m := 0) (by decide))) rfl rfl (kc_readInto (r := 0) (b := Mb (x + 3)) (m := 53) (by decide) w1 (by decide) (fun i => rfl) hC hX) (by omega) mi_X9_readInto lk_X11_87 rfl (Nat.le_of_ble_eq_true rfl) rfl rfl dX11_init_163 ?_
  intro v4 μ5 h6
  obtain ⟨w, Md, rfl, rfl, hrd, hfd⟩ := h6
  refine JJ_r1 ?_
  refine JJ_pop dX11_init_166 rfl ?_
  refine JJ_aload_n dX11_init_167 rfl rfl ?_
  refine JJ_getr (q := x + 2) (cis := [11]) (k := 1) fa_X11_18 (by decide) (congrArg Prod.fst (hB.sh (t := 0) (k := 12) (m := 0) (by decide))) rfl ((up2_n (by omega)).trans (hB.rf (t := 0) (s := 1) (u := 2) (by decide))) dX11_init_168 ?_
  refine JJ_iconst (v := 0) dX11_init_171 rfl ?_
  refine JJ_puti (cis := [9]) (k := 1) fa_X11_91 (by decide) (congrArg Prod.fst (hB.sh (t := 2) (k := 10) (m := 0) (by decide))) rfl (fun r hr => by cases hr; exact ⟨rfl, by decide +kernel⟩) dX11_init_172 (fun M7 hM8 => ?_)
  refine JJ.pick [0, 1] rfl ?_
  have gM : ∀ b k, ¬ b = x + 3 → ¬ b = x + 2 → ¬ (b = x + 10 ∧ k = 5) → ¬ b = x + 11 → ¬ b = x + 14 → M7 b k = M b k := fun b k z1 z2 z3 z4 z5 => rd_n hM8 (fun e => z2 e.1) ((hfd b k (by unfold RCE RCH; omega)).trans (w3 b k z1 (fun e => z2 e.1)))
  obtain ⟨cs, d0, d1, d2, hg1, hg2⟩ := gRule53
  have hg3 : gText (Mb (x + 3)) 53 = gText bRule 53 := gText_cong w2
  unfold RDO at hrd
  rw [hg3, hg1] at hrd
  obtain ⟨hw, hTX⟩ : w = -1 ∧ TXC (x + 10) Md (zEf d0 d1 d2) := hrd
  rw [hg2] at hTX
  have hTX2 : TXC (x + 10) M7 (zSay bRule 56) := hTX.keep (fun k => rd_n hM8 (by omega) rfl) (fun k => rd_n hM8 (by omega) rfl)
  exact ini_courts hX hΦ (hB.keep (fun b z => rfl) (fun b k z z1 z2 z3 => up2_n z3) (fun b k z z1 z2 => gM b k z1 z2 (by omega) (by omega) (by omega)) (rd_s hM8)) (hT.keep (fun b z1 z2 => rfl) (fun b k z1 z2 => up2_n (by omega)) (fun k hk => up2_n (by omega)) (fun j hj => gM _ _ (by omega) (by omega) (by omega) (by omega) (by omega))) hTX2
set_option maxHeartbeats 4000000 in
set_option maxRecDepth 100000 in
theorem ini_texts (hX : HSC x sc) (hΦ : ∀ (S : Nat → Nat × Nat) (M : Nat → Nat → Int32) (L : Nat → Nat → Int64) (P : Nat → Nat → Option Nat), INB x S0 M0 P0 S M P → CIN x S M P → Φ none (x + 75, S, M, L, P)) : ∀ (d i kc ks : Nat) (S : Nat → Nat × Nat) (M : Nat → Nat → Int32) (L : Nat → Nat → Int64) (P : Nat → Nat → Option Nat), i + d = 6 → kc = 35 + 5 * d → ks = 280 + 335 * d → INB x S0 M0 P0 S M P → TI x i S M P → JJ G sc yX11_init cX11_init 2 none 58 kc ks Φ 118 [(1, .int (nI i)), (0, .ref x)] [] (x + 10 + 5 * i, S, M, L, P) := by
  intro d
  induction d with
  | zero =>
    intro i kc ks S M L P hi hkc hks hB hT
    obtain rfl : i = 6 := by omega
    obtain rfl : kc = 35 := hkc
    obtain rfl : ks = 280 := hks
    refine JJ_iload_n dX11_init_118 rfl rfl ?_
    refine JJ_bipush (v := 6) dX11_init_119 rfl ?_
    refine JJ_icmp_ge (tgt := 144) dX11_init_121 (by decide) (fun _ => ?_) (fun c1 => absurd (by decide) c1)
    refine JJ.pick [0, 1] rfl ?_
    exact ini_rule hX hΦ hB hT
  | succ d ih =>
    intro i kc ks S M L P hi hkc hks hB hT
    refine JJ_iload_n dX11_init_118 rfl rfl ?_
    refine JJ_bipush (v := 6) dX11_init_119 rfl ?_
    refine JJ_icmp_ge (tgt := 144) dX11_init_121 (by decide) (fun c2 => absurd c2 (nI_ge (b := 6) (by omega) (by omega))) (fun _ => ?_)
    refine JJ_aload_n dX11_init_124 rfl rfl ?_
    refine JJ_getr (q := x + 1) (cis := [11]) (k := 0) fa_X11_11 (by decide) (congrArg Prod.fst (hB.sh (t := 0) (k := 12) (m := 0) (by decide))) rfl (hB.rf (t := 0) (s := 0) (u := 1) (by decide)) dX11_init_125 ?_
    refine JJ_iload_n dX11_init_128 rfl rfl ?_
    refine JJ_new (ci := 10) (kc' := 35 + 5 * d + 4) (ks' := 280 + 335 * d + 329) rfl tb_94 tb_136 tb_68 (by omega) (by show 280 + 335 * d + 329 + 6 = ks; omega) dX11_init_129 ?_
    refine JJ_gn (n1 := x + 10 + 5 * i + 1) rfl (fun Sa Ma La Pa hSa hMa hLa hPa => ?_)
    refine JJ_dup dX11_init_132 rfl ?_
    refine JJ_iload_n dX11_init_133 rfl rfl ?_
    refine JJ_callI (kc' := 35 + 5 * d) (ks' := 280 + 335 * d) (rest := [.ref (x + 10 + 5 * i), .int (nI i), .ref (x + 1)]) rfl (kc_Xinit (a := x + 10 + 5 * i) (pl := nI i) (n2 := x + 10 + 5 * (i + 1)) (gS_s hSa) (by omega)) (by omega) mi_X10_init lk_X11_78 rfl (Nat.le_of_ble_eq_true rfl) (by omega) (by omega) dX11_init_134 ?_
    intro v3 μ4 h5
    obtain ⟨rfl, Sb, Mb, Lb, Pb, rfl, ⟨s1, s2, s3, s4⟩, ⟨p1, p2, p3, p4⟩, m1, fS, fP, fM⟩ := h5
    refine JJ_r0 ?_
    refine JJ_aastX (t := 0) ((fS _ (by omega)).trans (gS_n hSa (by omega) (hB.sh (t := 1) (k := 22) (m := 6) (by decide)))) (by decide) (IX_nI (by omega) (by omega)) (congrArg Prod.fst ((fS _ (Nat.le_refl _)).trans (gS_s hSa))) rfl (Or.inl rfl) dX11_init_137 (fun P6 hP7 => ?_)
    refine JJ_iinc (v := nI (i + 1)) (lv' := [(1, .int (nI (i + 1))), (0, .ref x)]) dX11_init_138 rfl (nI_add (i) 1) (by decide) rfl ?_
    refine JJ_goto (tgt := 118) dX11_init_141 (by decide) ?_
    refine JJ.pick [0, 1] rfl ?_
    have gS : ∀ b, b < x + 10 + 5 * i → Sb b = S b := fun b z => (fS b (by omega)).trans (gS_n hSa (by omega) rfl)
    have gP : ∀ b k, b < x + 10 + 5 * i → ¬ (b = x + 1 ∧ k = i) → P6 b k = P b k := fun b k z z2 => rd_n hP7 z2 ((fP b k z).trans (gR_n hPa (by omega) rfl))
    have gM : ∀ b k, b < x + 10 + 5 * i → Mb b k = M b k := fun b k z => (fM b k z).trans (gR_n hMa (by omega) rfl)
    have hT2 : TI x (i + 1) Sb Mb P6 := by
      intro j hj
      by_cases ej : j = i
      · rw [ej]; exact ⟨⟨(fS _ (Nat.le_refl _)).trans (gS_s hSa), s1, s2, s3, s4⟩, ⟨rd_n hP7 (by omega) p1, rd_n hP7 (by omega) p2, rd_n hP7 (by omega) p3, rd_n hP7 (by omega) p4⟩, rd_s hP7, m1⟩
      · exact hT.keep (fun b z1 z2 => gS b z2) (fun b k z1 z2 => gP b k z2 (by omega)) (fun k hk => gP _ _ (by omega) (by omega)) (fun q hq => gM _ _ (by omega)) j (by omega)
    exact ih (i + 1) _ _ Sb Mb Lb P6 (by omega) rfl rfl (hB.keep (fun b z => gS b (by omega)) (fun b k z z1 z2 z3 => gP b k (by omega) (by omega)) (fun b k z z1 z2 => gM b k (by omega)) ((gM _ _ (by omega)).trans hB.2.2.1.2.2.2)) hT2
set_option maxHeartbeats 4000000 in
set_option maxRecDepth 100000 in
theorem kc_init (hs : S x = (12, 0)) (hX : HSC x sc) : KK G sc yX11_init cX11_init 2 none 58 74 2532 [.ref x] (x + 1, S, M, L, P) (fun v μ => v = none ∧ ∃ S' M' L' P', μ = (x + 75, S', M', L', P') ∧ CIN x S' M' P' ∧ ∀ b, b < x → S' b = S b ∧ ∀ k, P' b k = P b k ∧ M' b k = M b k) := by
  refine KK_of2 [(0, .ref x)] (by decide +kernel) (Nat.le_of_ble_eq_true rfl) rfl ?_
  refine JJ_aload_n dX11_init_0 rfl rfl ?_
  refine JJ_objInit lk_X11_1 tb_92 tb_93 (Nat.le_of_ble_eq_true rfl) dX11_init_1 ?_
  refine JJ_aload_n dX11_init_4 rfl rfl ?_
  refine JJ_bipush (v := 6) dX11_init_5 rfl ?_
  refine JJ_anewa (t := 0) (m := 6) (kc' := 73) (ks' := 2526) (by decide) rfl tb_94 (by decide +kernel) (by decide) rfl (by decide) rfl rfl dX11_init_7 ?_
  refine JJ_gn (n1 := x + 2) rfl (fun St1 Mt1 Lt1 Pt1 hSt1 hMt1 hLt1 hPt1 => ?_)
  refine JJ_putFr (ty := .array (.object "MiddleOfCourt$Text")) (cis := [11]) (k := 0) fa_X11_11 (by decide) (congrArg Prod.fst (gS_n hSt1 (by omega) hs)) rfl (fun r hr => by cases hr; exact ⟨⟨rfl, rfl⟩, by decide +kernel⟩) rfl rfl rfl dX11_init_10 (fun P1 hP2 => ?_)
  refine JJ_aload_n dX11_init_13 rfl rfl ?_
  refine JJ_new (ci := 9) (kc' := 72) (ks' := 2518) rfl tb_96 tb_97 tb_67 rfl rfl dX11_init_14 ?_
  refine JJ_gn (n1 := x + 3) rfl (fun St2 Mt2 Lt2 Pt2 hSt2 hMt2 hLt2 hPt2 => ?_)
  refine JJ_dup dX11_init_17 rfl ?_
  refine JJ_callIN (rest := [.ref (x + 2), .ref x]) rfl (kc_Kinit (a := x + 2) (n2 := x + 4) (gS_s hSt2) rfl) (by omega) mi_X9_init lk_X11_17 rfl (Nat.le_of_ble_eq_true rfl) rfl rfl dX11_init_18 ?_
  intro v3 μ4 h5
  obtain ⟨rfl, Sk, Mk, Lk, Pk, rfl, s1, p1, m1, fS, fP, fM⟩ := h5
  refine JJ_r0 ?_
  refine JJ_putFr (ty := .object "MiddleOfCourt$Tape") (cis := [11]) (k := 1) fa_X11_18 (by decide) (congrArg Prod.fst ((fS _ (by omega)).trans (gS_n hSt2 (by omega) (gS_n hSt1 (by omega) hs)))) rfl (fun r hr => by cases hr; exact ⟨⟨rfl, rfl⟩, by decide +kernel⟩) rfl rfl rfl dX11_init_21 (fun P6 hP7 => ?_)
  refine JJ_aload_n dX11_init_24 rfl rfl ?_
  refine JJ_iconst (v := 1) dX11_init_25 rfl ?_
  refine JJ_puti (cis := [11]) (k := 2) fa_X11_22 (by decide) (congrArg Prod.fst ((fS _ (by omega)).trans (gS_n hSt2 (by omega) (gS_n hSt1 (by omega) hs)))) rfl (fun r hr => by cases hr; exact ⟨rfl, by decide +kernel⟩) dX11_init_26 (fun M8 hM9 => ?_)
  refine JJ_aload_n dX11_init_29 rfl rfl ?_
  refine JJ_bipush (v := 6) dX11_init_30 rfl ?_
  refine JJ_anewa (t := 1) (m := 6) (kc' := 70) (ks' := 2352) (by decide) rfl tb_129 (by decide +kernel) (by decide) rfl (by decide) rfl rfl dX11_init_32 ?_
  refine JJ_gn (n1 := x + 5) rfl (fun St4 Mt4 Lt4 Pt4 hSt4 hMt4 hLt4 hPt4 => ?_)
  refine JJ_putFr (ty := .array (.object "MiddleOfCourt$Stroke")) (cis := [11]) (k := 3) fa_X11_28 (by decide) (congrArg Prod.fst (gS_n hSt4 (by omega) ((fS _ (by omega)).trans (gS_n hSt2 (by omega) (gS_n hSt1 (by omega) hs))))) rfl (fun r hr => by cases hr; exact ⟨⟨rfl, rfl⟩, by decide +kernel⟩) rfl rfl rfl dX11_init_35 (fun P10 hP11 => ?_)
  refine JJ_aload_n dX11_init_38 rfl rfl ?_
  refine JJ_iconst (v := 0) dX11_init_39 rfl ?_
  refine JJ_puti (cis := [11]) (k := 4) fa_X11_32 (by decide) (congrArg Prod.fst (gS_n hSt4 (by omega) ((fS _ (by omega)).trans (gS_n hSt2 (by omega) (gS_n hSt1 (by omega) hs))))) rfl (fun r hr => by cases hr; exact ⟨rfl, by decide +kernel⟩) dX11_init_40 (fun M12 hM13 => ?_)
  refine JJ_aload_n dX11_init_43 rfl rfl ?_
  refine JJ_bipush (v := 6) dX11_init_44 rfl ?_
  refine JJ_anewa (t := 2) (m := 6) (kc' := 69) (ks' := 2346) (by decide) rfl tb_131 (by decide +kernel) (by decide) rfl (by decide) rfl rfl dX11_init_46 ?_
  refine JJ_gn (n1 := x + 6) rfl (fun St5 Mt5 Lt5 Pt5 hSt5 hMt5 hLt5 hPt5 => ?_)
  refine JJ_putFr (ty := .array (.object "MiddleOfCourt$Court")) (cis := [11]) (k := 7) fa_X11_37 (by decide) (congrArg Prod.fst (gS_n hSt5 (by omega) (gS_n hSt4 (by omega) ((fS _ (by omega)).trans (gS_n hSt2 (by omega) (gS_n hSt1 (by omega) hs)))))) rfl (fun r hr => by cases hr; exact ⟨⟨rfl, rfl⟩, by decide +kernel⟩) rfl rfl rfl dX11_init_49 (fun P14 hP15 => ?_)
  refine JJ_aload_n dX11_init_52 rfl rfl ?_
  refine JJ_bipush (v := 6) dX11_init_53 rfl ?_
  refine JJ_newa (atype := .int) (t := 0) (m := 6) (kc' := 68) (ks' := 2340) (by decide) rfl tb_128 (by decide) rfl (by decide) rfl rfl dX11_init_55 ?_
  refine JJ_gn (n1 := x + 7) rfl (fun St6 Mt6 Lt6 Pt6 hSt6 hMt6 hLt6 hPt6 => ?_)
  refine JJ_putFr (ty := .array .int) (cis := [11]) (k := 9) fa_X11_41 (by decide) (congrArg Prod.fst (gS_n hSt6 (by omega) (gS_n hSt5 (by omega) (gS_n hSt4 (by omega) ((fS _ (by omega)).trans (gS_n hSt2 (by omega) (gS_n hSt1 (by omega) hs))))))) rfl (fun r hr => by cases hr; exact ⟨⟨rfl, rfl⟩, by decide +kernel⟩) rfl rfl rfl dX11_init_57 (fun P16 hP17 => ?_)
  refine JJ_aload_n dX11_init_60 rfl rfl ?_
  refine JJ_bipush (v := 6) dX11_init_61 rfl ?_
  refine JJ_newa (atype := .int) (t := 0) (m := 6) (kc' := 67) (ks' := 2334) (by decide) rfl tb_128 (by decide) rfl (by decide) rfl rfl dX11_init_63 ?_
  refine JJ_gn (n1 := x + 8) rfl (fun St7 Mt7 Lt7 Pt7 hSt7 hMt7 hLt7 hPt7 => ?_)
  refine JJ_putFr (ty := .array .int) (cis := [11]) (k := 10) fa_X11_45 (by decide) (congrArg Prod.fst (gS_n hSt7 (by omega) (gS_n hSt6 (by omega) (gS_n hSt5 (by omega) (gS_n hSt4 (by omega) ((fS _ (by omega)).trans (gS_n hSt2 (by omega) (gS_n hSt1 (by omega) hs)))))))) rfl (fun r hr => by cases hr; exact ⟨⟨rfl, rfl⟩, by decide +kernel⟩) rfl rfl rfl dX11_init_65 (fun P18 hP19 => ?_)
  refine JJ_aload_n dX11_init_68 rfl rfl ?_
  refine JJ_iconst (v := (-1)) dX11_init_69 rfl ?_
  refine JJ_puti (cis := [11]) (k := 11) fa_X11_48 (by decide) (congrArg Prod.fst (gS_n hSt7 (by omega) (gS_n hSt6 (by omega) (gS_n hSt5 (by omega) (gS_n hSt4 (by omega) ((fS _ (by omega)).trans (gS_n hSt2 (by omega) (gS_n hSt1 (by omega) hs)))))))) rfl (fun r hr => by cases hr; exact ⟨rfl, by decide +kernel⟩) dX11_init_70 (fun M20 hM21 => ?_)
  refine JJ_aload_n dX11_init_73 rfl rfl ?_
  refine JJ_iconst (v := 4) dX11_init_74 rfl ?_
  refine JJ_anewa (t := 3) (m := 4) (kc' := 66) (ks' := 2330) (by decide) rfl tb_133 (by decide +kernel) (by decide) rfl (by decide) rfl rfl dX11_init_75 ?_
  refine JJ_gn (n1 := x + 9) rfl (fun St8 Mt8 Lt8 Pt8 hSt8 hMt8 hLt8 hPt8 => ?_)
  refine JJ_putFr (ty := .array (.object "MiddleOfCourt$Sheet")) (cis := [11]) (k := 12) fa_X11_53 (by decide) (congrArg Prod.fst (gS_n hSt8 (by omega) (gS_n hSt7 (by omega) (gS_n hSt6 (by omega) (gS_n hSt5 (by omega) (gS_n hSt4 (by omega) ((fS _ (by omega)).trans (gS_n hSt2 (by omega) (gS_n hSt1 (by omega) hs))))))))) rfl (fun r hr => by cases hr; exact ⟨⟨rfl, rfl⟩, by decide +kernel⟩) rfl rfl rfl dX11_init_78 (fun P22 hP23 => ?_)
  refine JJ_aload_n dX11_init_81 rfl rfl ?_
  refine JJ_bipush (v := 40) dX11_init_82 rfl ?_
  refine JJ_newa (atype := .int) (t := 0) (m := 40) (kc' := 65) (ks' := 2290) (by decide) rfl tb_128 (by decide) rfl (by decide) rfl rfl dX11_init_84 ?_
  refine JJ_gn (n1 := x + 10) rfl (fun St9 Mt9 Lt9 Pt9 hSt9 hMt9 hLt9 hPt9 => ?_)
  refine JJ_putFr (ty := .array .int) (cis := [11]) (k := 13) fa_X11_57 (by decide) (congrArg Prod.fst (gS_n hSt9 (by omega) (gS_n hSt8 (by omega) (gS_n hSt7 (by omega) (gS_n hSt6 (by omega) (gS_n hSt5 (by omega) (gS_n hSt4 (by omega) ((fS _ (by omega)).trans (gS_n hSt2 (by omega) (gS_n hSt1 (by omega) hs)))))))))) rfl (fun r hr => by cases hr; exact ⟨⟨rfl, rfl⟩, by decide +kernel⟩) rfl rfl rfl dX11_init_86 (fun P24 hP25 => ?_)
  refine JJ_aload_n dX11_init_89 rfl rfl ?_
  refine JJ_iconst (v := 0) dX11_init_90 rfl ?_
  refine JJ_puti (cis := [11]) (k := 14) fa_X11_60 (by decide) (congrArg Prod.fst (gS_n hSt9 (by omega) (gS_n hSt8 (by omega) (gS_n hSt7 (by omega) (gS_n hSt6 (by omega) (gS_n hSt5 (by omega) (gS_n hSt4 (by omega) ((fS _ (by omega)).trans (gS_n hSt2 (by omega) (gS_n hSt1 (by omega) hs)))))))))) rfl (fun r hr => by cases hr; exact ⟨rfl, by decide +kernel⟩) dX11_init_91 (fun M26 hM27 => ?_)
  refine JJ_aload_n dX11_init_94 rfl rfl ?_
  refine JJ_ldc2 (v := 1000000000) dX11_init_95 tb_135 ?_
  refine JJ_putl (cis := [11]) (k := 15) fa_X11_65 (by decide) (congrArg Prod.fst (gS_n hSt9 (by omega) (gS_n hSt8 (by omega) (gS_n hSt7 (by omega) (gS_n hSt6 (by omega) (gS_n hSt5 (by omega) (gS_n hSt4 (by omega) ((fS _ (by omega)).trans (gS_n hSt2 (by omega) (gS_n hSt1 (by omega) hs)))))))))) rfl (fun r hr => by cases hr; exact ⟨rfl, by decide +kernel⟩) dX11_init_98 (fun L28 hL29 => ?_)
  refine JJ_aload_n dX11_init_101 rfl rfl ?_
  refine JJ_iconst (v := (-1)) dX11_init_102 rfl ?_
  refine JJ_puti (cis := [11]) (k := 16) fa_X11_69 (by decide) (congrArg Prod.fst (gS_n hSt9 (by omega) (gS_n hSt8 (by omega) (gS_n hSt7 (by omega) (gS_n hSt6 (by omega) (gS_n hSt5 (by omega) (gS_n hSt4 (by omega) ((fS _ (by omega)).trans (gS_n hSt2 (by omega) (gS_n hSt1 (by omega) hs)))))))))) rfl (fun r hr => by cases hr; exact ⟨rfl, by decide +kernel⟩) dX11_init_103 (fun M30 hM31 => ?_)
  refine JJ_aload_n dX11_init_106 rfl rfl ?_
  refine JJ_iconst (v := (-1)) dX11_init_107 rfl ?_
  refine JJ_puti (cis := [11]) (k := 17) fa_X11_72 (by decide) (congrArg Prod.fst (gS_n hSt9 (by omega) (gS_n hSt8 (by omega) (gS_n hSt7 (by omega) (gS_n hSt6 (by omega) (gS_n hSt5 (by omega) (gS_n hSt4 (by omega) ((fS _ (by omega)).trans (gS_n hSt2 (by omega) (gS_n hSt1 (by omega) hs)))))))))) rfl (fun r hr => by cases hr; exact ⟨rfl, by decide +kernel⟩) dX11_init_108 (fun M32 hM33 => ?_)
  refine JJ_aload_n dX11_init_111 rfl rfl ?_
  refine JJ_iconst (v := (-1)) dX11_init_112 rfl ?_
  refine JJ_puti (cis := [11]) (k := 18) fa_X11_75 (by decide) (congrArg Prod.fst (gS_n hSt9 (by omega) (gS_n hSt8 (by omega) (gS_n hSt7 (by omega) (gS_n hSt6 (by omega) (gS_n hSt5 (by omega) (gS_n hSt4 (by omega) ((fS _ (by omega)).trans (gS_n hSt2 (by omega) (gS_n hSt1 (by omega) hs)))))))))) rfl (fun r hr => by cases hr; exact ⟨rfl, by decide +kernel⟩) dX11_init_113 (fun M34 hM35 => ?_)
  refine JJ_iconst (v := 0) dX11_init_116 rfl ?_
  refine JJ_istore_n (lv' := [(1, .int 0), (0, .ref x)]) dX11_init_117 rfl (by decide) rfl ?_
  refine JJ.pick [0, 1] rfl ?_
  have a1 : ∀ q ∈ CSh, St9 (x + q.1) = q.2 := by
    intro q hq
    simp only [CSh, List.mem_cons, List.not_mem_nil, or_false] at hq
    rcases hq with rfl | rfl | rfl | rfl | rfl | rfl | rfl | rfl | rfl | rfl
    · exact (show St9 (x) = (12, 0) from (gS_n hSt9 (by omega) (gS_n hSt8 (by omega) (gS_n hSt7 (by omega) (gS_n hSt6 (by omega) (gS_n hSt5 (by omega) (gS_n hSt4 (by omega) ((fS _ (by omega)).trans (gS_n hSt2 (by omega) (gS_n hSt1 (by omega) hs))))))))))
    · exact (show St9 (x + 1) = (22, 6) from (gS_n hSt9 (by omega) (gS_n hSt8 (by omega) (gS_n hSt7 (by omega) (gS_n hSt6 (by omega) (gS_n hSt5 (by omega) (gS_n hSt4 (by omega) ((fS _ (by omega)).trans (gS_n hSt2 (by omega) (gS_s hSt1))))))))))
    · exact (show St9 (x + 2) = (10, 0) from (gS_n hSt9 (by omega) (gS_n hSt8 (by omega) (gS_n hSt7 (by omega) (gS_n hSt6 (by omega) (gS_n hSt5 (by omega) (gS_n hSt4 (by omega) ((fS _ (by omega)).trans (gS_s hSt2)))))))))
    · exact (show St9 (x + 3) = (20, 160) from (gS_n hSt9 (by omega) (gS_n hSt8 (by omega) (gS_n hSt7 (by omega) (gS_n hSt6 (by omega) (gS_n hSt5 (by omega) (gS_n hSt4 (by omega) s1)))))))
    · exact (show St9 (x + 4) = (23, 6) from (gS_n hSt9 (by omega) (gS_n hSt8 (by omega) (gS_n hSt7 (by omega) (gS_n hSt6 (by omega) (gS_n hSt5 (by omega) (gS_s hSt4)))))))
    · exact (show St9 (x + 5) = (24, 6) from (gS_n hSt9 (by omega) (gS_n hSt8 (by omega) (gS_n hSt7 (by omega) (gS_n hSt6 (by omega) (gS_s hSt5))))))
    · exact (show St9 (x + 6) = (20, 6) from (gS_n hSt9 (by omega) (gS_n hSt8 (by omega) (gS_n hSt7 (by omega) (gS_s hSt6)))))
    · exact (show St9 (x + 7) = (20, 6) from (gS_n hSt9 (by omega) (gS_n hSt8 (by omega) (gS_s hSt7))))
    · exact (show St9 (x + 8) = (25, 4) from (gS_n hSt9 (by omega) (gS_s hSt8)))
    · exact (show St9 (x + 9) = (20, 40) from (gS_s hSt9))
  have a2 : ∀ q ∈ CRb, P24 (x + q.1) q.2.1 = some (x + q.2.2) := by
    intro q hq
    simp only [CRb, List.mem_cons, List.not_mem_nil, or_false] at hq
    rcases hq with rfl | rfl | rfl | rfl | rfl | rfl | rfl | rfl | rfl
    · exact (show P24 (x) 0 = some (x + 1) from (rd_n hP25 (by omega) (gR_n hPt9 (by omega) (rd_n hP23 (by omega) (gR_n hPt8 (by omega) (rd_n hP19 (by omega) (gR_n hPt7 (by omega) (rd_n hP17 (by omega) (gR_n hPt6 (by omega) (rd_n hP15 (by omega) (gR_n hPt5 (by omega) (rd_n hP11 (by omega) (gR_n hPt4 (by omega) (rd_n hP7 (by omega) ((fP _ _ (by omega)).trans (gR_n hPt2 (by omega) (rd_s hP2)))))))))))))))))
    · exact (show P24 (x) 1 = some (x + 2) from (rd_n hP25 (by omega) (gR_n hPt9 (by omega) (rd_n hP23 (by omega) (gR_n hPt8 (by omega) (rd_n hP19 (by omega) (gR_n hPt7 (by omega) (rd_n hP17 (by omega) (gR_n hPt6 (by omega) (rd_n hP15 (by omega) (gR_n hPt5 (by omega) (rd_n hP11 (by omega) (gR_n hPt4 (by omega) (rd_s hP7))))))))))))))
    · exact (show P24 (x) 3 = some (x + 4) from (rd_n hP25 (by omega) (gR_n hPt9 (by omega) (rd_n hP23 (by omega) (gR_n hPt8 (by omega) (rd_n hP19 (by omega) (gR_n hPt7 (by omega) (rd_n hP17 (by omega) (gR_n hPt6 (by omega) (rd_n hP15 (by omega) (gR_n hPt5 (by omega) (rd_s hP11))))))))))))
    · exact (show P24 (x) 7 = some (x + 5) from (rd_n hP25 (by omega) (gR_n hPt9 (by omega) (rd_n hP23 (by omega) (gR_n hPt8 (by omega) (rd_n hP19 (by omega) (gR_n hPt7 (by omega) (rd_n hP17 (by omega) (gR_n hPt6 (by omega) (rd_s hP15))))))))))
    · exact (show P24 (x) 9 = some (x + 6) from (rd_n hP25 (by omega) (gR_n hPt9 (by omega) (rd_n hP23 (by omega) (gR_n hPt8 (by omega) (rd_n hP19 (by omega) (gR_n hPt7 (by omega) (rd_s hP17))))))))
    · exact (show P24 (x) 10 = some (x + 7) from (rd_n hP25 (by omega) (gR_n hPt9 (by omega) (rd_n hP23 (by omega) (gR_n hPt8 (by omega) (rd_s hP19))))))
    · exact (show P24 (x) 12 = some (x + 8) from (rd_n hP25 (by omega) (gR_n hPt9 (by omega) (rd_s hP23))))
    · exact (show P24 (x) 13 = some (x + 9) from (rd_s hP25))
    · exact (show P24 (x + 2) 0 = some (x + 3) from (rd_n hP25 (by omega) (gR_n hPt9 (by omega) (rd_n hP23 (by omega) (gR_n hPt8 (by omega) (rd_n hP19 (by omega) (gR_n hPt7 (by omega) (rd_n hP17 (by omega) (gR_n hPt6 (by omega) (rd_n hP15 (by omega) (gR_n hPt5 (by omega) (rd_n hP11 (by omega) (gR_n hPt4 (by omega) (rd_n hP7 (by omega) p1))))))))))))))
  have a3 : M34 x 2 = 1 ∧ M34 x 4 = 0 ∧ M34 x 11 = -1 ∧ M34 (x + 2) 1 = 0 := ⟨(rd_n hM35 (by omega) (rd_n hM33 (by omega) (rd_n hM31 (by omega) (rd_n hM27 (by omega) (gR_n hMt9 (by omega) (gR_n hMt8 (by omega) (rd_n hM21 (by omega) (gR_n hMt7 (by omega) (gR_n hMt6 (by omega) (gR_n hMt5 (by omega) (rd_n hM13 (by omega) (gR_n hMt4 (by omega) (rd_s hM9))))))))))))), (rd_n hM35 (by omega) (rd_n hM33 (by omega) (rd_n hM31 (by omega) (rd_n hM27 (by omega) (gR_n hMt9 (by omega) (gR_n hMt8 (by omega) (rd_n hM21 (by omega) (gR_n hMt7 (by omega) (gR_n hMt6 (by omega) (gR_n hMt5 (by omega) (rd_s hM13))))))))))), (rd_n hM35 (by omega) (rd_n hM33 (by omega) (rd_n hM31 (by omega) (rd_n hM27 (by omega) (gR_n hMt9 (by omega) (gR_n hMt8 (by omega) (rd_s hM21))))))), (rd_n hM35 (by omega) (rd_n hM33 (by omega) (rd_n hM31 (by omega) (rd_n hM27 (by omega) (gR_n hMt9 (by omega) (gR_n hMt8 (by omega) (rd_n hM21 (by omega) (gR_n hMt7 (by omega) (gR_n hMt6 (by omega) (gR_n hMt5 (by omega) (rd_n hM13 (by omega) (gR_n hMt4 (by omega) (rd_n hM9 (by omega) m1)))))))))))))⟩
  have a4 : ∀ b, b < x → St9 b = S b ∧ ∀ k, P24 b k = P b k ∧ M34 b k = M b k := fun b z => ⟨(gS_n hSt9 (by omega) (gS_n hSt8 (by omega) (gS_n hSt7 (by omega) (gS_n hSt6 (by omega) (gS_n hSt5 (by omega) (gS_n hSt4 (by omega) ((fS _ (by omega)).trans (gS_n hSt2 (by omega) (gS_n hSt1 (by omega) rfl))))))))), fun k => ⟨(rd_n hP25 (by omega) (gR_n hPt9 (by omega) (rd_n hP23 (by omega) (gR_n hPt8 (by omega) (rd_n hP19 (by omega) (gR_n hPt7 (by omega) (rd_n hP17 (by omega) (gR_n hPt6 (by omega) (rd_n hP15 (by omega) (gR_n hPt5 (by omega) (rd_n hP11 (by omega) (gR_n hPt4 (by omega) (rd_n hP7 (by omega) ((fP _ _ (by omega)).trans (gR_n hPt2 (by omega) (rd_n hP2 (by omega) (gR_n hPt1 (by omega) rfl))))))))))))))))), (rd_n hM35 (by omega) (rd_n hM33 (by omega) (rd_n hM31 (by omega) (rd_n hM27 (by omega) (gR_n hMt9 (by omega) (gR_n hMt8 (by omega) (rd_n hM21 (by omega) (gR_n hMt7 (by omega) (gR_n hMt6 (by omega) (gR_n hMt5 (by omega) (rd_n hM13 (by omega) (gR_n hMt4 (by omega) (rd_n hM9 (by omega) ((fM _ _ (by omega)).trans (gR_n hMt2 (by omega) (gR_n hMt1 (by omega) rfl))))))))))))))))⟩⟩
  exact ini_texts (S0 := S) (M0 := M) (P0 := P) hX (fun S' M' L' P' h1 h2 => ⟨rfl, S', M', L', P', rfl, h2, h1.2.2.2⟩) 6 0 65 2290 St9 M34 L28 P24 rfl rfl rfl ⟨a1, a2, a3, a4⟩ (fun j hj => absurd hj (Nat.not_lt_zero _))
end C41
