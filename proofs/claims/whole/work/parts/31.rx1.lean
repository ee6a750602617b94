section RX1
variable {G : Gx} {sc : Nat → Nat → Prop} {n : Nat} {S : Nat → Nat × Nat} {M : Nat → Nat → Int32} {L : Nat → Nat → Int64} {P : Nat → Nat → Option Nat} {o : Nat} {r m f : Nat} {b : Nat → Int32} {nm : Nms}

set_option maxHeartbeats 4000000 in
set_option maxRecDepth 100000 in
theorem kp_term {sub g : PF} {ds : Nat} (hds : 5 ≤ ds) (hB : ∀ i, i < m → 0 ≤ (b i).toInt) (hR : RWF o S P) (hX : HX o sc) (hge : ∀ i, g i = pBind (sub i) (gLoop b m oMul sub 160)) (hsub : ∀ (i : Nat) (M : Nat → Nat → Int32) (L : Nat → Nat → Int64), PST o r m b nm f i M L → KK G sc yX12_atom cX12_atom 2 (some .int) ds 0 0 [.ref o] (n, S, M, L, P) (PPO o r m b nm f i n S P (sub i) M L)) : ∀ (i : Nat) (M : Nat → Nat → Int32) (L : Nat → Nat → Int64), PST o r m b nm f i M L → KK G sc yX12_term cX12_term 2 (some .int) (ds + 1) 0 0 [.ref o] (n, S, M, L, P) (PPO o r m b nm f i n S P (g i) M L) := by
  intro i M L hp
  have h300 : 5 - f < 300 := by omega
  refine KK_of2 [(0, .ref o)] (by decide +kernel) (Nat.le_of_ble_eq_true rfl) rfl ?_
  refine JJ_aload_n dX12_term_0 rfl rfl ?_
  refine JJ_callV (rest := []) hR.1 rfl rfl (hsub i M L hp) (by omega) mi_X12_atom lk_X12_206 rfl (Nat.le_of_ble_eq_true rfl) rfl rfl dX12_term_1 ?_
  intro v1 μ2 h3
  obtain ⟨x, Ma, La, rfl, rfl, hfa, hla, hma⟩ := h3
  refine JJ_r1 ?_
  refine JJ_istore_n (lv' := [(1, .int x), (0, .ref o)]) dX12_term_4 rfl (by decide) rfl ?_
  rcases hg1 : sub i with q | ⟨c, d, j⟩
  · skip
    rw [hg1] at hma
    obtain ⟨b29, b30⟩ : Ma o 29 = 1 ∧ Ma o 30 = nI q := hma
    have hgt : g i = .inl q := (hge i).trans (by rw [hg1]; rfl)
    refine JJ_aload_n dX12_term_5 rfl rfl ?_
    refine JJ_bipush (v := 42) dX12_term_6 rfl ?_
    refine JJ_callV (rest := []) hR.1 rfl rfl (kp_isSign1 b29 hR hX) (by omega) mi_X12_isSign lk_X12_199 rfl (Nat.le_of_ble_eq_true rfl) rfl rfl dX12_term_8 ?_
    intro v4 μ5 h6
    obtain ⟨rfl, rfl⟩ := h6
    refine JJ_r1 ?_
    refine JJ_if_eq (tgt := 28) dX12_term_11 (by decide) (fun _ => ?_) (fun c7 => absurd (by decide) c7)
    refine JJ_iload_n dX12_term_28 rfl rfl ?_
    refine JJ_iret dX12_term_29 rfl ?_
    exact ⟨_, Ma, La, rfl, rfl, hfa, hla, by rw [hgt]; exact ⟨b29, b30⟩⟩
  rw [hg1] at hma
  obtain ⟨hxd, hij, hpj⟩ : x = d nm ∧ i < j ∧ PST o r m b nm f j Ma La := hma
  have hgt : gLoop b m oMul sub 160 c d j = g i := ((hge i).trans (by rw [hg1]; rfl)).symm
  have key : ∀ (k j : Nat) (c : List Int32) (d : Nms → Int32) (x : Int32) (Mx : Nat → Nat → Int32) (Lx : Nat → Nat → Int64), m ≤ j + k → i < j → PST o r m b nm f j Mx Lx → x = d nm → gLoop b m oMul sub k c d j = g i → (∀ b k, ¬ PD o b k → Mx b k = M b k) → (∀ b k, ¬ (b = o ∧ k = 27) → Lx b k = L b k) → JJ G sc yX12_term cX12_term 2 (some .int) (ds + 1) 0 0 (PPO o r m b nm f i n S P (g i) M L) 5 [(1, .int x), (0, .ref o)] [] (n, S, Mx, Lx, P) := by
    intro k
    induction k with
    | zero =>
      intro j c d x Mx Lx hmk hij hpx hxd htar hfx hlx
      refine JJ_aload_n dX12_term_5 rfl rfl ?_
      refine JJ_bipush (v := 42) dX12_term_6 rfl ?_
      refine JJ_callV (rest := []) hR.1 rfl rfl (kp_isSign (c := 42) hpx.2.2.2.1 hpx.2.2.2.2.2.2 (by decide) hR hX) (by omega) mi_X12_isSign lk_X12_199 rfl (Nat.le_of_ble_eq_true rfl) rfl rfl dX12_term_8 ?_
      intro v8 μ9 h10
      obtain ⟨rfl, rfl⟩ := h10
      refine JJ_r1 ?_
      refine JJ_if_eq (tgt := 28) dX12_term_11 (by decide) (fun _ => ?_) (fun c11 => absurd (b2_f (by rw [tok_0 (j := j) hmk]; decide)) c11)
      refine JJ_iload_n dX12_term_28 rfl rfl ?_
      refine JJ_iret dX12_term_29 rfl ?_
      exact ⟨_, Mx, Lx, rfl, rfl, hfx, hlx, by rw [← htar]; exact ⟨hxd, hij, hpx⟩⟩
    | succ k ih =>
      intro j c d x Mx Lx hmk hij hpx hxd htar hfx hlx
      refine JJ_aload_n dX12_term_5 rfl rfl ?_
      refine JJ_bipush (v := 42) dX12_term_6 rfl ?_
      refine JJ_callV (rest := []) hR.1 rfl rfl (kp_isSign (c := 42) hpx.2.2.2.1 hpx.2.2.2.2.2.2 (by decide) hR hX) (by omega) mi_X12_isSign lk_X12_199 rfl (Nat.le_of_ble_eq_true rfl) rfl rfl dX12_term_8 ?_
      intro v12 μ13 h14
      obtain ⟨rfl, rfl⟩ := h14
      refine JJ_r1 ?_
      refine JJ_if_eq (tgt := 28) dX12_term_11 (by decide) (fun c15 => ?_) (fun c15 => ?_)
      · skip
        refine JJ_iload_n dX12_term_28 rfl rfl ?_
        refine JJ_iret dX12_term_29 rfl ?_
        exact ⟨_, Mx, Lx, rfl, rfl, hfx, hlx, by rw [← htar, gl_no (if_neg (b2_0.mp c15))]; exact ⟨hxd, hij, hpx⟩⟩
      · skip
        have htk : (tok b m j).1 = 42 := b2_n.mp c15
        refine JJ_aload_n dX12_term_14 rfl rfl ?_
        have hte := tks_e hpx.2.2.2.2.2.2 (by rw [htk]; decide)
        refine JJ_callV (rest := []) hR.1 rfl rfl (kp_nx hpx.1 hpx.2.1 hte.2.2 hpx.2.2.2.1 hpx.2.2.2.2.1 hpx.2.2.2.2.2.1 hB (tks_sg24 hpx.2.2.2.2.2.2 (by decide) htk).1 hR hX) (by omega) mi_X12_next lk_X12_174 rfl (Nat.le_of_ble_eq_true rfl) rfl rfl dX12_term_15 ?_
        intro v16 μ17 h18
        obtain ⟨rfl, Mc, Lc, rfl, hpc, hfc, hlc⟩ := h18
        refine JJ_r0 ?_
        refine JJ_iload_n dX12_term_18 rfl rfl ?_
        refine JJ_aload_n dX12_term_19 rfl rfl ?_
        refine JJ_callV (rest := [.int x]) hR.1 rfl rfl (hsub _ Mc Lc hpc) (by omega) mi_X12_atom lk_X12_206 rfl (Nat.le_of_ble_eq_true rfl) rfl rfl dX12_term_20 ?_
        intro v19 μ20 h21
        obtain ⟨y, Md, Ld, rfl, rfl, hfd, hld, hmd⟩ := h21
        refine JJ_r1 ?_
        refine JJ_imul dX12_term_23 ?_
        refine JJ_istore_n (lv' := [(1, .int (x * y)), (0, .ref o)]) dX12_term_24 rfl (by decide) rfl ?_
        refine JJ_goto (tgt := 5) dX12_term_25 (by decide) ?_
        rcases hg2 : sub (tok b m j).2.2.2 with q | ⟨c2, d2, j2⟩
        · skip
          rw [hg2] at hmd
          obtain ⟨b29, b30⟩ : Md o 29 = 1 ∧ Md o 30 = nI q := hmd
          refine JJ_aload_n dX12_term_5 rfl rfl ?_
          refine JJ_bipush (v := 42) dX12_term_6 rfl ?_
          refine JJ_callV (rest := []) hR.1 rfl rfl (kp_isSign1 b29 hR hX) (by omega) mi_X12_isSign lk_X12_199 rfl (Nat.le_of_ble_eq_true rfl) rfl rfl dX12_term_8 ?_
          intro v22 μ23 h24
          obtain ⟨rfl, rfl⟩ := h24
          refine JJ_r1 ?_
          refine JJ_if_eq (tgt := 28) dX12_term_11 (by decide) (fun _ => ?_) (fun c25 => absurd (by decide) c25)
          refine JJ_iload_n dX12_term_28 rfl rfl ?_
          refine JJ_iret dX12_term_29 rfl ?_
          exact ⟨_, Md, Ld, rfl, rfl, (fun b k z => (hfd b k z).trans ((hfc b k z).trans (hfx b k z))), (fun b k z => (hld b k z).trans ((hlc b k z).trans (hlx b k z))), by rw [← htar, gl_in (if_pos htk) hg2]; exact ⟨b29, b30⟩⟩
        rw [hg2] at hmd
        obtain ⟨hyd, hjj, hpd⟩ : y = d2 nm ∧ (tok b m j).2.2.2 < j2 ∧ PST o r m b nm f j2 Md Ld := hmd
        refine JJ.pick [0, 1] rfl ?_
        exact ih j2 _ _ _ Md Ld (by omega) (by omega) hpd (by rw [hxd, hyd]) ((gl_go (if_pos htk) hg2).symm.trans htar) (fun b k z => (hfd b k z).trans ((hfc b k z).trans (hfx b k z))) (fun b k z => (hld b k z).trans ((hlc b k z).trans (hlx b k z)))
  refine JJ.pick [0, 1] rfl ?_
  exact key 160 j c d x Ma La (by have := hp.1.2.1; omega) hij hpj hxd hgt hfa hla
set_option maxHeartbeats 4000000 in
set_option maxRecDepth 100000 in
theorem kp_both {sub g : PF} {ds : Nat} (hds : 5 ≤ ds) (hB : ∀ i, i < m → 0 ≤ (b i).toInt) (hR : RWF o S P) (hX : HX o sc) (hge : ∀ i, g i = pBind (sub i) (gLoop b m oAnd sub 160)) (hsub : ∀ (i : Nat) (M : Nat → Nat → Int32) (L : Nat → Nat → Int64), PST o r m b nm f i M L → KK G sc yX12_not cX12_not 4 (some .int) ds 0 0 [.ref o] (n, S, M, L, P) (PPO o r m b nm f i n S P (sub i) M L)) : ∀ (i : Nat) (M : Nat → Nat → Int32) (L : Nat → Nat → Int64), PST o r m b nm f i M L → KK G sc yX12_both cX12_both 3 (some .int) (ds + 1) 0 0 [.ref o] (n, S, M, L, P) (PPO o r m b nm f i n S P (g i) M L) := by
  intro i M L hp
  have h300 : 5 - f < 300 := by omega
  refine KK_of2 [(0, .ref o)] (by decide +kernel) (Nat.le_of_ble_eq_true rfl) rfl ?_
  refine JJ_aload_n dX12_both_0 rfl rfl ?_
  refine JJ_callV (rest := []) hR.1 rfl rfl (hsub i M L hp) (by omega) mi_X12_not lk_X12_221 rfl (Nat.le_of_ble_eq_true rfl) rfl rfl dX12_both_1 ?_
  intro v1 μ2 h3
  obtain ⟨x, Ma, La, rfl, rfl, hfa, hla, hma⟩ := h3
  refine JJ_r1 ?_
  refine JJ_istore_n (lv' := [(1, .int x), (0, .ref o)]) dX12_both_4 rfl (by decide) rfl ?_
  rcases hg1 : sub i with q | ⟨c, d, j⟩
  · skip
    rw [hg1] at hma
    obtain ⟨b29, b30⟩ : Ma o 29 = 1 ∧ Ma o 30 = nI q := hma
    have hgt : g i = .inl q := (hge i).trans (by rw [hg1]; rfl)
    refine JJ_aload_n dX12_both_5 rfl rfl ?_
    refine JJ_bipush (v := 97) dX12_both_6 rfl ?_
    refine JJ_bipush (v := 110) dX12_both_8 rfl ?_
    refine JJ_bipush (v := 100) dX12_both_10 rfl ?_
    refine JJ_iconst (v := 0) dX12_both_12 rfl ?_
    refine JJ_iconst (v := 0) dX12_both_13 rfl ?_
    refine JJ_iconst (v := 0) dX12_both_14 rfl ?_
    refine JJ_iconst (v := 0) dX12_both_15 rfl ?_
    refine JJ_iconst (v := 0) dX12_both_16 rfl ?_
    refine JJ_callV (rest := []) hR.1 rfl rfl (kp_isWord1 b29 hR hX) (by omega) mi_X12_isWord lk_X12_177 rfl (Nat.le_of_ble_eq_true rfl) rfl rfl dX12_both_17 ?_
    intro v4 μ5 h6
    obtain ⟨rfl, rfl⟩ := h6
    refine JJ_r1 ?_
    refine JJ_if_eq (tgt := 49) dX12_both_20 (by decide) (fun _ => ?_) (fun c7 => absurd (by decide) c7)
    refine JJ_iload_n dX12_both_49 rfl rfl ?_
    refine JJ_iret dX12_both_50 rfl ?_
    exact ⟨_, Ma, La, rfl, rfl, hfa, hla, by rw [hgt]; exact ⟨b29, b30⟩⟩
  rw [hg1] at hma
  obtain ⟨hxd, hij, hpj⟩ : x = d nm ∧ i < j ∧ PST o r m b nm f j Ma La := hma
  have hgt : gLoop b m oAnd sub 160 c d j = g i := ((hge i).trans (by rw [hg1]; rfl)).symm
  have key : ∀ (k j : Nat) (c : List Int32) (d : Nms → Int32) (x : Int32) (Mx : Nat → Nat → Int32) (Lx : Nat → Nat → Int64), m ≤ j + k → i < j → PST o r m b nm f j Mx Lx → x = d nm → gLoop b m oAnd sub k c d j = g i → (∀ b k, ¬ PD o b k → Mx b k = M b k) → (∀ b k, ¬ (b = o ∧ k = 27) → Lx b k = L b k) → JJ G sc yX12_both cX12_both 3 (some .int) (ds + 1) 0 0 (PPO o r m b nm f i n S P (g i) M L) 5 [(1, .int x), (0, .ref o)] [] (n, S, Mx, Lx, P) := by
    intro k
    induction k with
    | zero =>
      intro j c d x Mx Lx hmk hij hpx hxd htar hfx hlx
      refine JJ_aload_n dX12_both_5 rfl rfl ?_
      refine JJ_bipush (v := 97) dX12_both_6 rfl ?_
      refine JJ_bipush (v := 110) dX12_both_8 rfl ?_
      refine JJ_bipush (v := 100) dX12_both_10 rfl ?_
      refine JJ_iconst (v := 0) dX12_both_12 rfl ?_
      refine JJ_iconst (v := 0) dX12_both_13 rfl ?_
      refine JJ_iconst (v := 0) dX12_both_14 rfl ?_
      refine JJ_iconst (v := 0) dX12_both_15 rfl ?_
      refine JJ_iconst (v := 0) dX12_both_16 rfl ?_
      refine JJ_callV (rest := []) hR.1 rfl rfl (kp_and (m := m) (i := j) hpx.1 hpx.2.2.2.1 (hpx.2.1.symm ▸ hpx.2.2.2.2.2.2) hR hX) (by omega) mi_X12_isWord lk_X12_177 rfl (Nat.le_of_ble_eq_true rfl) rfl rfl dX12_both_17 ?_
      intro v8 μ9 h10
      obtain ⟨rfl, rfl⟩ := h10
      refine JJ_r1 ?_
      refine JJ_eqi (x2 := bw ((tok b m j).1 = 7)) (by rw [hpx.2.1]) ?_
      refine JJ_if_eq (tgt := 49) dX12_both_20 (by decide) (fun _ => ?_) (fun c11 => absurd (bw_f (by rw [tok_0 (j := j) hmk]; decide)) c11)
      refine JJ_iload_n dX12_both_49 rfl rfl ?_
      refine JJ_iret dX12_both_50 rfl ?_
      exact ⟨_, Mx, Lx, rfl, rfl, hfx, hlx, by rw [← htar]; exact ⟨hxd, hij, hpx⟩⟩
    | succ k ih =>
      intro j c d x Mx Lx hmk hij hpx hxd htar hfx hlx
      refine JJ_aload_n dX12_both_5 rfl rfl ?_
      refine JJ_bipush (v := 97) dX12_both_6 rfl ?_
      refine JJ_bipush (v := 110) dX12_both_8 rfl ?_
      refine JJ_bipush (v := 100) dX12_both_10 rfl ?_
      refine JJ_iconst (v := 0) dX12_both_12 rfl ?_
      refine JJ_iconst (v := 0) dX12_both_13 rfl ?_
      refine JJ_iconst (v := 0) dX12_both_14 rfl ?_
      refine JJ_iconst (v := 0) dX12_both_15 rfl ?_
      refine JJ_iconst (v := 0) dX12_both_16 rfl ?_
      refine JJ_callV (rest := []) hR.1 rfl rfl (kp_and (m := m) (i := j) hpx.1 hpx.2.2.2.1 (hpx.2.1.symm ▸ hpx.2.2.2.2.2.2) hR hX) (by omega) mi_X12_isWord lk_X12_177 rfl (Nat.le_of_ble_eq_true rfl) rfl rfl dX12_both_17 ?_
      intro v12 μ13 h14
      obtain ⟨rfl, rfl⟩ := h14
      refine JJ_r1 ?_
      refine JJ_eqi (x2 := bw ((tok b m j).1 = 7)) (by rw [hpx.2.1]) ?_
      refine JJ_if_eq (tgt := 49) dX12_both_20 (by decide) (fun c15 => ?_) (fun c15 => ?_)
      · skip
        refine JJ_iload_n dX12_both_49 rfl rfl ?_
        refine JJ_iret dX12_both_50 rfl ?_
        exact ⟨_, Mx, Lx, rfl, rfl, hfx, hlx, by rw [← htar, gl_no (if_neg (bw_0.mp c15))]; exact ⟨hxd, hij, hpx⟩⟩
      · skip
        have htk : (tok b m j).1 = 7 := bw_n.mp c15
        have h25 : Mx o 25 = 1 := ((tok_key hpx.2.2.2.2.2.2 (by decide) (fun s e h => wkey_7 h) (by decide) (by decide)).1.mp htk).1
        refine JJ_aload_n dX12_both_23 rfl rfl ?_
        have hte := tks_e hpx.2.2.2.2.2.2 (by rw [htk]; decide)
        refine JJ_callV (rest := []) hR.1 rfl rfl (kp_nx hpx.1 hpx.2.1 hte.2.2 hpx.2.2.2.1 hpx.2.2.2.2.1 hpx.2.2.2.2.2.1 hB (tks_ky24 hpx.2.2.2.2.2.2 h25) hR hX) (by omega) mi_X12_next lk_X12_174 rfl (Nat.le_of_ble_eq_true rfl) rfl rfl dX12_both_24 ?_
        intro v16 μ17 h18
        obtain ⟨rfl, Mc, Lc, rfl, hpc, hfc, hlc⟩ := h18
        refine JJ_r0 ?_
        refine JJ_aload_n dX12_both_27 rfl rfl ?_
        refine JJ_callV (rest := []) hR.1 rfl rfl (hsub _ Mc Lc hpc) (by omega) mi_X12_not lk_X12_221 rfl (Nat.le_of_ble_eq_true rfl) rfl rfl dX12_both_28 ?_
        intro v19 μ20 h21
        obtain ⟨y, Md, Ld, rfl, rfl, hfd, hld, hmd⟩ := h21
        refine JJ_r1 ?_
        refine JJ_istore_n (lv' := [(2, .int y), (1, .int x), (0, .ref o)]) dX12_both_31 rfl (by decide) rfl ?_
        refine JJ_iload_n dX12_both_32 rfl rfl ?_
        refine JJ_if_eq (tgt := 44) dX12_both_33 (by decide) (fun c22 => ?_) (fun c22 => ?_)
        · skip
          refine JJ_iconst (v := 0) dX12_both_44 rfl ?_
          refine JJ_istore_n (lv' := [(1, .int 0), (2, .int y), (0, .ref o)]) dX12_both_45 rfl (by decide) rfl ?_
          refine JJ_goto (tgt := 5) dX12_both_46 (by decide) ?_
          rcases hg2 : sub (tok b m j).2.2.2 with q | ⟨c2, d2, j2⟩
          · skip
            rw [hg2] at hmd
            obtain ⟨b29, b30⟩ : Md o 29 = 1 ∧ Md o 30 = nI q := hmd
            refine JJ_aload_n dX12_both_5 rfl rfl ?_
            refine JJ_bipush (v := 97) dX12_both_6 rfl ?_
            refine JJ_bipush (v := 110) dX12_both_8 rfl ?_
            refine JJ_bipush (v := 100) dX12_both_10 rfl ?_
            refine JJ_iconst (v := 0) dX12_both_12 rfl ?_
            refine JJ_iconst (v := 0) dX12_both_13 rfl ?_
            refine JJ_iconst (v := 0) dX12_both_14 rfl ?_
            refine JJ_iconst (v := 0) dX12_both_15 rfl ?_
            refine JJ_iconst (v := 0) dX12_both_16 rfl ?_
            refine JJ_callV (rest := []) hR.1 rfl rfl (kp_isWord1 b29 hR hX) (by omega) mi_X12_isWord lk_X12_177 rfl (Nat.le_of_ble_eq_true rfl) rfl rfl dX12_both_17 ?_
            intro v23 μ24 h25
            obtain ⟨rfl, rfl⟩ := h25
            refine JJ_r1 ?_
            refine JJ_if_eq (tgt := 49) dX12_both_20 (by decide) (fun _ => ?_) (fun c26 => absurd (by decide) c26)
            refine JJ_iload_n dX12_both_49 rfl rfl ?_
            refine JJ_iret dX12_both_50 rfl ?_
            exact ⟨_, Md, Ld, rfl, rfl, (fun b k z => (hfd b k z).trans ((hfc b k z).trans (hfx b k z))), (fun b k z => (hld b k z).trans ((hlc b k z).trans (hlx b k z))), by rw [← htar, gl_in (if_pos htk) hg2]; exact ⟨b29, b30⟩⟩
          rw [hg2] at hmd
          obtain ⟨hyd, hjj, hpd⟩ : y = d2 nm ∧ (tok b m j).2.2.2 < j2 ∧ PST o r m b nm f j2 Md Ld := hmd
          refine JJ.pick [0, 2] rfl ?_
          exact ih j2 _ _ _ Md Ld (by omega) (by omega) hpd (by rw [← hxd, ← hyd]; exact (b2_f (fun z => z.1 c22)).symm) ((gl_go (if_pos htk) hg2).symm.trans htar) (fun b k z => (hfd b k z).trans ((hfc b k z).trans (hfx b k z))) (fun b k z => (hld b k z).trans ((hlc b k z).trans (hlx b k z)))
        · skip
          refine JJ_iload_n dX12_both_36 rfl rfl ?_
          refine JJ_if_eq (tgt := 44) dX12_both_37 (by decide) (fun c27 => ?_) (fun c27 => ?_)
          · skip
            refine JJ_iconst (v := 0) dX12_both_44 rfl ?_
            refine JJ_istore_n (lv' := [(1, .int 0), (2, .int y), (0, .ref o)]) dX12_both_45 rfl (by decide) rfl ?_
            refine JJ_goto (tgt := 5) dX12_both_46 (by decide) ?_
            rcases hg2 : sub (tok b m j).2.2.2 with q | ⟨c2, d2, j2⟩
            · skip
              rw [hg2] at hmd
              obtain ⟨b29, b30⟩ : Md o 29 = 1 ∧ Md o 30 = nI q := hmd
              refine JJ_aload_n dX12_both_5 rfl rfl ?_
              refine JJ_bipush (v := 97) dX12_both_6 rfl ?_
              refine JJ_bipush (v := 110) dX12_both_8 rfl ?_
              refine JJ_bipush (v := 100) dX12_both_10 rfl ?_
              refine JJ_iconst (v := 0) dX12_both_12 rfl ?_
              refine JJ_iconst (v := 0) dX12_both_13 rfl ?_
              refine JJ_iconst (v := 0) dX12_both_14 rfl ?_
              refine JJ_iconst (v := 0) dX12_both_15 rfl ?_
              refine JJ_iconst (v := 0) dX12_both_16 rfl ?_
              refine JJ_callV (rest := []) hR.1 rfl rfl (kp_isWord1 b29 hR hX) (by omega) mi_X12_isWord lk_X12_177 rfl (Nat.le_of_ble_eq_true rfl) rfl rfl dX12_both_17 ?_
              intro v28 μ29 h30
              obtain ⟨rfl, rfl⟩ := h30
              refine JJ_r1 ?_
              refine JJ_if_eq (tgt := 49) dX12_both_20 (by decide) (fun _ => ?_) (fun c31 => absurd (by decide) c31)
              refine JJ_iload_n dX12_both_49 rfl rfl ?_
              refine JJ_iret dX12_both_50 rfl ?_
              exact ⟨_, Md, Ld, rfl, rfl, (fun b k z => (hfd b k z).trans ((hfc b k z).trans (hfx b k z))), (fun b k z => (hld b k z).trans ((hlc b k z).trans (hlx b k z))), by rw [← htar, gl_in (if_pos htk) hg2]; exact ⟨b29, b30⟩⟩
            rw [hg2] at hmd
            obtain ⟨hyd, hjj, hpd⟩ : y = d2 nm ∧ (tok b m j).2.2.2 < j2 ∧ PST o r m b nm f j2 Md Ld := hmd
            refine JJ.pick [0, 2] rfl ?_
            exact ih j2 _ _ _ Md Ld (by omega) (by omega) hpd (by rw [← hxd, ← hyd]; exact (b2_f (fun z => z.2 c27)).symm) ((gl_go (if_pos htk) hg2).symm.trans htar) (fun b k z => (hfd b k z).trans ((hfc b k z).trans (hfx b k z))) (fun b k z => (hld b k z).trans ((hlc b k z).trans (hlx b k z)))
          · skip
            refine JJ_iconst (v := 1) dX12_both_40 rfl ?_
            refine JJ_goto (tgt := 45) dX12_both_41 (by decide) ?_
            refine JJ_istore_n (lv' := [(1, .int 1), (2, .int y), (0, .ref o)]) dX12_both_45 rfl (by decide) rfl ?_
            refine JJ_goto (tgt := 5) dX12_both_46 (by decide) ?_
            rcases hg2 : sub (tok b m j).2.2.2 with q | ⟨c2, d2, j2⟩
            · skip
              rw [hg2] at hmd
              obtain ⟨b29, b30⟩ : Md o 29 = 1 ∧ Md o 30 = nI q := hmd
              refine JJ_aload_n dX12_both_5 rfl rfl ?_
              refine JJ_bipush (v := 97) dX12_both_6 rfl ?_
              refine JJ_bipush (v := 110) dX12_both_8 rfl ?_
              refine JJ_bipush (v := 100) dX12_both_10 rfl ?_
              refine JJ_iconst (v := 0) dX12_both_12 rfl ?_
              refine JJ_iconst (v := 0) dX12_both_13 rfl ?_
              refine JJ_iconst (v := 0) dX12_both_14 rfl ?_
              refine JJ_iconst (v := 0) dX12_both_15 rfl ?_
              refine JJ_iconst (v := 0) dX12_both_16 rfl ?_
              refine JJ_callV (rest := []) hR.1 rfl rfl (kp_isWord1 b29 hR hX) (by omega) mi_X12_isWord lk_X12_177 rfl (Nat.le_of_ble_eq_true rfl) rfl rfl dX12_both_17 ?_
              intro v32 μ33 h34
              obtain ⟨rfl, rfl⟩ := h34
              refine JJ_r1 ?_
              refine JJ_if_eq (tgt := 49) dX12_both_20 (by decide) (fun _ => ?_) (fun c35 => absurd (by decide) c35)
              refine JJ_iload_n dX12_both_49 rfl rfl ?_
              refine JJ_iret dX12_both_50 rfl ?_
              exact ⟨_, Md, Ld, rfl, rfl, (fun b k z => (hfd b k z).trans ((hfc b k z).trans (hfx b k z))), (fun b k z => (hld b k z).trans ((hlc b k z).trans (hlx b k z))), by rw [← htar, gl_in (if_pos htk) hg2]; exact ⟨b29, b30⟩⟩
            rw [hg2] at hmd
            obtain ⟨hyd, hjj, hpd⟩ : y = d2 nm ∧ (tok b m j).2.2.2 < j2 ∧ PST o r m b nm f j2 Md Ld := hmd
            refine JJ.pick [0, 2] rfl ?_
            exact ih j2 _ _ _ Md Ld (by omega) (by omega) hpd (by rw [← hxd, ← hyd]; exact (b2_t ⟨c22, c27⟩).symm) ((gl_go (if_pos htk) hg2).symm.trans htar) (fun b k z => (hfd b k z).trans ((hfc b k z).trans (hfx b k z))) (fun b k z => (hld b k z).trans ((hlc b k z).trans (hlx b k z)))
  refine JJ.pick [0, 1] rfl ?_
  exact key 160 j c d x Ma La (by have := hp.1.2.1; omega) hij hpj hxd hgt hfa hla
set_option maxHeartbeats 4000000 in
set_option maxRecDepth 100000 in
theorem kp_either {sub g : PF} {ds : Nat} (hds : 5 ≤ ds) (hB : ∀ i, i < m → 0 ≤ (b i).toInt) (hR : RWF o S P) (hX : HX o sc) (hge : ∀ i, g i = pBind (sub i) (gLoop b m oOr sub 160)) (hsub : ∀ (i : Nat) (M : Nat → Nat → Int32) (L : Nat → Nat → Int64), PST o r m b nm f i M L → KK G sc yX12_both cX12_both 3 (some .int) ds 0 0 [.ref o] (n, S, M, L, P) (PPO o r m b nm f i n S P (sub i) M L)) : ∀ (i : Nat) (M : Nat → Nat → Int32) (L : Nat → Nat → Int64), PST o r m b nm f i M L → KK G sc yX12_either cX12_either 3 (some .int) (ds + 1) 0 0 [.ref o] (n, S, M, L, P) (PPO o r m b nm f i n S P (g i) M L) := by
  intro i M L hp
  have h300 : 5 - f < 300 := by omega
  refine KK_of2 [(0, .ref o)] (by decide +kernel) (Nat.le_of_ble_eq_true rfl) rfl ?_
  refine JJ_aload_n dX12_either_0 rfl rfl ?_
  refine JJ_callV (rest := []) hR.1 rfl rfl (hsub i M L hp) (by omega) mi_X12_both lk_X12_229 rfl (Nat.le_of_ble_eq_true rfl) rfl rfl dX12_either_1 ?_
  intro v1 μ2 h3
  obtain ⟨x, Ma, La, rfl, rfl, hfa, hla, hma⟩ := h3
  refine JJ_r1 ?_
  refine JJ_istore_n (lv' := [(1, .int x), (0, .ref o)]) dX12_either_4 rfl (by decide) rfl ?_
  rcases hg1 : sub i with q | ⟨c, d, j⟩
  · skip
    rw [hg1] at hma
    obtain ⟨b29, b30⟩ : Ma o 29 = 1 ∧ Ma o 30 = nI q := hma
    have hgt : g i = .inl q := (hge i).trans (by rw [hg1]; rfl)
    refine JJ_aload_n dX12_either_5 rfl rfl ?_
    refine JJ_bipush (v := 111) dX12_either_6 rfl ?_
    refine JJ_bipush (v := 114) dX12_either_8 rfl ?_
    refine JJ_iconst (v := 0) dX12_either_10 rfl ?_
    refine JJ_iconst (v := 0) dX12_either_11 rfl ?_
    refine JJ_iconst (v := 0) dX12_either_12 rfl ?_
    refine JJ_iconst (v := 0) dX12_either_13 rfl ?_
    refine JJ_iconst (v := 0) dX12_either_14 rfl ?_
    refine JJ_iconst (v := 0) dX12_either_15 rfl ?_
    refine JJ_callV (rest := []) hR.1 rfl rfl (kp_isWord1 b29 hR hX) (by omega) mi_X12_isWord lk_X12_177 rfl (Nat.le_of_ble_eq_true rfl) rfl rfl dX12_either_16 ?_
    intro v4 μ5 h6
    obtain ⟨rfl, rfl⟩ := h6
    refine JJ_r1 ?_
    refine JJ_if_eq (tgt := 48) dX12_either_19 (by decide) (fun _ => ?_) (fun c7 => absurd (by decide) c7)
    refine JJ_iload_n dX12_either_48 rfl rfl ?_
    refine JJ_iret dX12_either_49 rfl ?_
    exact ⟨_, Ma, La, rfl, rfl, hfa, hla, by rw [hgt]; exact ⟨b29, b30⟩⟩
  rw [hg1] at hma
  obtain ⟨hxd, hij, hpj⟩ : x = d nm ∧ i < j ∧ PST o r m b nm f j Ma La := hma
  have hgt : gLoop b m oOr sub 160 c d j = g i := ((hge i).trans (by rw [hg1]; rfl)).symm
  have key : ∀ (k j : Nat) (c : List Int32) (d : Nms → Int32) (x : Int32) (Mx : Nat → Nat → Int32) (Lx : Nat → Nat → Int64), m ≤ j + k → i < j → PST o r m b nm f j Mx Lx → x = d nm → gLoop b m oOr sub k c d j = g i → (∀ b k, ¬ PD o b k → Mx b k = M b k) → (∀ b k, ¬ (b = o ∧ k = 27) → Lx b k = L b k) → JJ G sc yX12_either cX12_either 3 (some .int) (ds + 1) 0 0 (PPO o r m b nm f i n S P (g i) M L) 5 [(1, .int x), (0, .ref o)] [] (n, S, Mx, Lx, P) := by
    intro k
    induction k with
    | zero =>
      intro j c d x Mx Lx hmk hij hpx hxd htar hfx hlx
      refine JJ_aload_n dX12_either_5 rfl rfl ?_
      refine JJ_bipush (v := 111) dX12_either_6 rfl ?_
      refine JJ_bipush (v := 114) dX12_either_8 rfl ?_
      refine JJ_iconst (v := 0) dX12_either_10 rfl ?_
      refine JJ_iconst (v := 0) dX12_either_11 rfl ?_
      refine JJ_iconst (v := 0) dX12_either_12 rfl ?_
      refine JJ_iconst (v := 0) dX12_either_13 rfl ?_
      refine JJ_iconst (v := 0) dX12_either_14 rfl ?_
      refine JJ_iconst (v := 0) dX12_either_15 rfl ?_
      refine JJ_callV (rest := []) hR.1 rfl rfl (kp_or (m := m) (i := j) hpx.1 hpx.2.2.2.1 (hpx.2.1.symm ▸ hpx.2.2.2.2.2.2) hR hX) (by omega) mi_X12_isWord lk_X12_177 rfl (Nat.le_of_ble_eq_true rfl) rfl rfl dX12_either_16 ?_
      intro v8 μ9 h10
      obtain ⟨rfl, rfl⟩ := h10
      refine JJ_r1 ?_
      refine JJ_eqi (x2 := bw ((tok b m j).1 = 6)) (by rw [hpx.2.1]) ?_
      refine JJ_if_eq (tgt := 48) dX12_either_19 (by decide) (fun _ => ?_) (fun c11 => absurd (bw_f (by rw [tok_0 (j := j) hmk]; decide)) c11)
      refine JJ_iload_n dX12_either_48 rfl rfl ?_
      refine JJ_iret dX12_either_49 rfl ?_
      exact ⟨_, Mx, Lx, rfl, rfl, hfx, hlx, by rw [← htar]; exact ⟨hxd, hij, hpx⟩⟩
    | succ k ih =>
      intro j c d x Mx Lx hmk hij hpx hxd htar hfx hlx
      refine JJ_aload_n dX12_either_5 rfl rfl ?_
      refine JJ_bipush (v := 111) dX12_either_6 rfl ?_
      refine JJ_bipush (v := 114) dX12_either_8 rfl ?_
      refine JJ_iconst (v := 0) dX12_either_10 rfl ?_
      refine JJ_iconst (v := 0) dX12_either_11 rfl ?_
      refine JJ_iconst (v := 0) dX12_either_12 rfl ?_
      refine JJ_iconst (v := 0) dX12_either_13 rfl ?_
      refine JJ_iconst (v := 0) dX12_either_14 rfl ?_
      refine JJ_iconst (v := 0) dX12_either_15 rfl ?_
      refine JJ_callV (rest := []) hR.1 rfl rfl (kp_or (m := m) (i := j) hpx.1 hpx.2.2.2.1 (hpx.2.1.symm ▸ hpx.2.2.2.2.2.2) hR hX) (by omega) mi_X12_isWord lk_X12_177 rfl (Nat.le_of_ble_eq_true rfl) rfl rfl dX12_either_16 ?_
      intro v12 μ13 h14
      obtain ⟨rfl, rfl⟩ := h14
      refine JJ_r1 ?_
      refine JJ_eqi (x2 := bw ((tok b m j).1 = 6)) (by rw [hpx.2.1]) ?_
      refine JJ_if_eq (tgt := 48) dX12_either_19 (by decide) (fun c15 => ?_) (fun c15 => ?_)
      · skip
        refine JJ_iload_n dX12_either_48 rfl rfl ?_
        refine JJ_iret dX12_either_49 rfl ?_
        exact ⟨_, Mx, Lx, rfl, rfl, hfx, hlx, by rw [← htar, gl_no (if_neg (bw_0.mp c15))]; exact ⟨hxd, hij, hpx⟩⟩
      · skip
        have htk : (tok b m j).1 = 6 := bw_n.mp c15
        have h25 : Mx o 25 = 1 := ((tok_key hpx.2.2.2.2.2.2 (by decide) (fun s e h => wkey_6 h) (by decide) (by decide)).1.mp htk).1
        refine JJ_aload_n dX12_either_22 rfl rfl ?_
        have hte := tks_e hpx.2.2.2.2.2.2 (by rw [htk]; decide)
        refine JJ_callV (rest := []) hR.1 rfl rfl (kp_nx hpx.1 hpx.2.1 hte.2.2 hpx.2.2.2.1 hpx.2.2.2.2.1 hpx.2.2.2.2.2.1 hB (tks_ky24 hpx.2.2.2.2.2.2 h25) hR hX) (by omega) mi_X12_next lk_X12_174 rfl (Nat.le_of_ble_eq_true rfl) rfl rfl dX12_either_23 ?_
        intro v16 μ17 h18
        obtain ⟨rfl, Mc, Lc, rfl, hpc, hfc, hlc⟩ := h18
        refine JJ_r0 ?_
        refine JJ_aload_n dX12_either_26 rfl rfl ?_
        refine JJ_callV (rest := []) hR.1 rfl rfl (hsub _ Mc Lc hpc) (by omega) mi_X12_both lk_X12_229 rfl (Nat.le_of_ble_eq_true rfl) rfl rfl dX12_either_27 ?_
        intro v19 μ20 h21
        obtain ⟨y, Md, Ld, rfl, rfl, hfd, hld, hmd⟩ := h21
        refine JJ_r1 ?_
        refine JJ_istore_n (lv' := [(2, .int y), (1, .int x), (0, .ref o)]) dX12_either_30 rfl (by decide) rfl ?_
        refine JJ_iload_n dX12_either_31 rfl rfl ?_
        refine JJ_if_ne (tgt := 39) dX12_either_32 (by decide) (fun c22 => ?_) (fun c22 => ?_)
        · skip
          refine JJ_iconst (v := 1) dX12_either_39 rfl ?_
          refine JJ_goto (tgt := 44) dX12_either_40 (by decide) ?_
          refine JJ_istore_n (lv' := [(1, .int 1), (2, .int y), (0, .ref o)]) dX12_either_44 rfl (by decide) rfl ?_
          refine JJ_goto (tgt := 5) dX12_either_45 (by decide) ?_
          rcases hg2 : sub (tok b m j).2.2.2 with q | ⟨c2, d2, j2⟩
          · skip
            rw [hg2] at hmd
            obtain ⟨b29, b30⟩ : Md o 29 = 1 ∧ Md o 30 = nI q := hmd
            refine JJ_aload_n dX12_either_5 rfl rfl ?_
            refine JJ_bipush (v := 111) dX12_either_6 rfl ?_
            refine JJ_bipush (v := 114) dX12_either_8 rfl ?_
            refine JJ_iconst (v := 0) dX12_either_10 rfl ?_
            refine JJ_iconst (v := 0) dX12_either_11 rfl ?_
            refine JJ_iconst (v := 0) dX12_either_12 rfl ?_
            refine JJ_iconst (v := 0) dX12_either_13 rfl ?_
            refine JJ_iconst (v := 0) dX12_either_14 rfl ?_
            refine JJ_iconst (v := 0) dX12_either_15 rfl ?_
            refine JJ_callV (rest := []) hR.1 rfl rfl (kp_isWord1 b29 hR hX) (by omega) mi_X12_isWord lk_X12_177 rfl (Nat.le_of_ble_eq_true rfl) rfl rfl dX12_either_16 ?_
            intro v23 μ24 h25
            obtain ⟨rfl, rfl⟩ := h25
            refine JJ_r1 ?_
            refine JJ_if_eq (tgt := 48) dX12_either_19 (by decide) (fun _ => ?_) (fun c26 => absurd (by decide) c26)
            refine JJ_iload_n dX12_either_48 rfl rfl ?_
            refine JJ_iret dX12_either_49 rfl ?_
            exact ⟨_, Md, Ld, rfl, rfl, (fun b k z => (hfd b k z).trans ((hfc b k z).trans (hfx b k z))), (fun b k z => (hld b k z).trans ((hlc b k z).trans (hlx b k z))), by rw [← htar, gl_in (if_pos htk) hg2]; exact ⟨b29, b30⟩⟩
          rw [hg2] at hmd
          obtain ⟨hyd, hjj, hpd⟩ : y = d2 nm ∧ (tok b m j).2.2.2 < j2 ∧ PST o r m b nm f j2 Md Ld := hmd
          refine JJ.pick [0, 2] rfl ?_
          exact ih j2 _ _ _ Md Ld (by omega) (by omega) hpd (by rw [← hxd, ← hyd]; exact (b2_t (Or.inl c22)).symm) ((gl_go (if_pos htk) hg2).symm.trans htar) (fun b k z => (hfd b k z).trans ((hfc b k z).trans (hfx b k z))) (fun b k z => (hld b k z).trans ((hlc b k z).trans (hlx b k z)))
        · skip
          refine JJ_iload_n dX12_either_35 rfl rfl ?_
          refine JJ_if_eq (tgt := 43) dX12_either_36 (by decide) (fun c27 => ?_) (fun c27 => ?_)
          · skip
            refine JJ_iconst (v := 0) dX12_either_43 rfl ?_
            refine JJ_istore_n (lv' := [(1, .int 0), (2, .int y), (0, .ref o)]) dX12_either_44 rfl (by decide) rfl ?_
            refine JJ_goto (tgt := 5) dX12_either_45 (by decide) ?_
            rcases hg2 : sub (tok b m j).2.2.2 with q | ⟨c2, d2, j2⟩
            · skip
              rw [hg2] at hmd
              obtain ⟨b29, b30⟩ : Md o 29 = 1 ∧ Md o 30 = nI q := hmd
              refine JJ_aload_n dX12_either_5 rfl rfl ?_
              refine JJ_bipush (v := 111) dX12_either_6 rfl ?_
              refine JJ_bipush (v := 114) dX12_either_8 rfl ?_
              refine JJ_iconst (v := 0) dX12_either_10 rfl ?_
              refine JJ_iconst (v := 0) dX12_either_11 rfl ?_
              refine JJ_iconst (v := 0) dX12_either_12 rfl ?_
              refine JJ_iconst (v := 0) dX12_either_13 rfl ?_
              refine JJ_iconst (v := 0) dX12_either_14 rfl ?_
              refine JJ_iconst (v := 0) dX12_either_15 rfl ?_
              refine JJ_callV (rest := []) hR.1 rfl rfl (kp_isWord1 b29 hR hX) (by omega) mi_X12_isWord lk_X12_177 rfl (Nat.le_of_ble_eq_true rfl) rfl rfl dX12_either_16 ?_
              intro v28 μ29 h30
              obtain ⟨rfl, rfl⟩ := h30
              refine JJ_r1 ?_
              refine JJ_if_eq (tgt := 48) dX12_either_19 (by decide) (fun _ => ?_) (fun c31 => absurd (by decide) c31)
              refine JJ_iload_n dX12_either_48 rfl rfl ?_
              refine JJ_iret dX12_either_49 rfl ?_
              exact ⟨_, Md, Ld, rfl, rfl, (fun b k z => (hfd b k z).trans ((hfc b k z).trans (hfx b k z))), (fun b k z => (hld b k z).trans ((hlc b k z).trans (hlx b k z))), by rw [← htar, gl_in (if_pos htk) hg2]; exact ⟨b29, b30⟩⟩
            rw [hg2] at hmd
            obtain ⟨hyd, hjj, hpd⟩ : y = d2 nm ∧ (tok b m j).2.2.2 < j2 ∧ PST o r m b nm f j2 Md Ld := hmd
            refine JJ.pick [0, 2] rfl ?_
            exact ih j2 _ _ _ Md Ld (by omega) (by omega) hpd (by rw [← hxd, ← hyd]; exact (b2_f (fun z => z.elim (fun q => q c22) (fun q => q c27))).symm) ((gl_go (if_pos htk) hg2).symm.trans htar) (fun b k z => (hfd b k z).trans ((hfc b k z).trans (hfx b k z))) (fun b k z => (hld b k z).trans ((hlc b k z).trans (hlx b k z)))
          · skip
            refine JJ_iconst (v := 1) dX12_either_39 rfl ?_
            refine JJ_goto (tgt := 44) dX12_either_40 (by decide) ?_
            refine JJ_istore_n (lv' := [(1, .int 1), (2, .int y), (0, .ref o)]) dX12_either_44 rfl (by decide) rfl ?_
            refine JJ_goto (tgt := 5) dX12_either_45 (by decide) ?_
            rcases hg2 : sub (tok b m j).2.2.2 with q | ⟨c2, d2, j2⟩
            · skip
              rw [hg2] at hmd
              obtain ⟨b29, b30⟩ : Md o 29 = 1 ∧ Md o 30 = nI q := hmd
              refine JJ_aload_n dX12_either_5 rfl rfl ?_
              refine JJ_bipush (v := 111) dX12_either_6 rfl ?_
              refine JJ_bipush (v := 114) dX12_either_8 rfl ?_
              refine JJ_iconst (v := 0) dX12_either_10 rfl ?_
              refine JJ_iconst (v := 0) dX12_either_11 rfl ?_
              refine JJ_iconst (v := 0) dX12_either_12 rfl ?_
              refine JJ_iconst (v := 0) dX12_either_13 rfl ?_
              refine JJ_iconst (v := 0) dX12_either_14 rfl ?_
              refine JJ_iconst (v := 0) dX12_either_15 rfl ?_
              refine JJ_callV (rest := []) hR.1 rfl rfl (kp_isWord1 b29 hR hX) (by omega) mi_X12_isWord lk_X12_177 rfl (Nat.le_of_ble_eq_true rfl) rfl rfl dX12_either_16 ?_
              intro v32 μ33 h34
              obtain ⟨rfl, rfl⟩ := h34
              refine JJ_r1 ?_
              refine JJ_if_eq (tgt := 48) dX12_either_19 (by decide) (fun _ => ?_) (fun c35 => absurd (by decide) c35)
              refine JJ_iload_n dX12_either_48 rfl rfl ?_
              refine JJ_iret dX12_either_49 rfl ?_
              exact ⟨_, Md, Ld, rfl, rfl, (fun b k z => (hfd b k z).trans ((hfc b k z).trans (hfx b k z))), (fun b k z => (hld b k z).trans ((hlc b k z).trans (hlx b k z))), by rw [← htar, gl_in (if_pos htk) hg2]; exact ⟨b29, b30⟩⟩
            rw [hg2] at hmd
            obtain ⟨hyd, hjj, hpd⟩ : y = d2 nm ∧ (tok b m j).2.2.2 < j2 ∧ PST o r m b nm f j2 Md Ld := hmd
            refine JJ.pick [0, 2] rfl ?_
            exact ih j2 _ _ _ Md Ld (by omega) (by omega) hpd (by rw [← hxd, ← hyd]; exact (b2_t (Or.inr c27)).symm) ((gl_go (if_pos htk) hg2).symm.trans htar) (fun b k z => (hfd b k z).trans ((hfc b k z).trans (hfx b k z))) (fun b k z => (hld b k z).trans ((hlc b k z).trans (hlx b k z)))
  refine JJ.pick [0, 1] rfl ?_
  exact key 160 j c d x Ma La (by have := hp.1.2.1; omega) hij hpj hxd hgt hfa hla
set_option maxHeartbeats 4000000 in
set_option maxRecDepth 100000 in
theorem kp_added {sub g : PF} {ds : Nat} (hds : 5 ≤ ds) (hB : ∀ i, i < m → 0 ≤ (b i).toInt) (hR : RWF o S P) (hX : HX o sc) (hge : ∀ i, g i = pBind (sub i) (gLoop b m oAdd sub 160)) (hsub : ∀ (i : Nat) (M : Nat → Nat → Int32) (L : Nat → Nat → Int64), PST o r m b nm f i M L → KK G sc yX12_term cX12_term 2 (some .int) ds 0 0 [.ref o] (n, S, M, L, P) (PPO o r m b nm f i n S P (sub i) M L)) : ∀ (i : Nat) (M : Nat → Nat → Int32) (L : Nat → Nat → Int64), PST o r m b nm f i M L → KK G sc yX12_added cX12_added 4 (some .int) (ds + 1) 0 0 [.ref o] (n, S, M, L, P) (PPO o r m b nm f i n S P (g i) M L) := by
  intro i M L hp
  have h300 : 5 - f < 300 := by omega
  refine KK_of2 [(0, .ref o)] (by decide +kernel) (Nat.le_of_ble_eq_true rfl) rfl ?_
  refine JJ_aload_n dX12_added_0 rfl rfl ?_
  refine JJ_callV (rest := []) hR.1 rfl rfl (hsub i M L hp) (by omega) mi_X12_term lk_X12_216 rfl (Nat.le_of_ble_eq_true rfl) rfl rfl dX12_added_1 ?_
  intro v1 μ2 h3
  obtain ⟨x, Ma, La, rfl, rfl, hfa, hla, hma⟩ := h3
  refine JJ_r1 ?_
  refine JJ_istore_n (lv' := [(1, .int x), (0, .ref o)]) dX12_added_4 rfl (by decide) rfl ?_
  rcases hg1 : sub i with q | ⟨c, d, j⟩
  · skip
    rw [hg1] at hma
    obtain ⟨b29, b30⟩ : Ma o 29 = 1 ∧ Ma o 30 = nI q := hma
    have hgt : g i = .inl q := (hge i).trans (by rw [hg1]; rfl)
    refine JJ_aload_n dX12_added_5 rfl rfl ?_
    refine JJ_bipush (v := 43) dX12_added_6 rfl ?_
    refine JJ_callV (rest := []) hR.1 rfl rfl (kp_isSign1 b29 hR hX) (by omega) mi_X12_isSign lk_X12_199 rfl (Nat.le_of_ble_eq_true rfl) rfl rfl dX12_added_8 ?_
    intro v4 μ5 h6
    obtain ⟨rfl, rfl⟩ := h6
    refine JJ_r1 ?_
    refine JJ_if_ne (tgt := 23) dX12_added_11 (by decide) (fun c7 => absurd (by decide) c7) (fun _ => ?_)
    refine JJ_aload_n dX12_added_14 rfl rfl ?_
    refine JJ_bipush (v := 45) dX12_added_15 rfl ?_
    refine JJ_callV (rest := []) hR.1 rfl rfl (kp_isSign1 b29 hR hX) (by omega) mi_X12_isSign lk_X12_199 rfl (Nat.le_of_ble_eq_true rfl) rfl rfl dX12_added_17 ?_
    intro v8 μ9 h10
    obtain ⟨rfl, rfl⟩ := h10
    refine JJ_r1 ?_
    refine JJ_if_eq (tgt := 66) dX12_added_20 (by decide) (fun _ => ?_) (fun c11 => absurd (by decide) c11)
    refine JJ_iload_n dX12_added_66 rfl rfl ?_
    refine JJ_iret dX12_added_67 rfl ?_
    exact ⟨_, Ma, La, rfl, rfl, hfa, hla, by rw [hgt]; exact ⟨b29, b30⟩⟩
  rw [hg1] at hma
  obtain ⟨hxd, hij, hpj⟩ : x = d nm ∧ i < j ∧ PST o r m b nm f j Ma La := hma
  have hgt : gLoop b m oAdd sub 160 c d j = g i := ((hge i).trans (by rw [hg1]; rfl)).symm
  have key : ∀ (k j : Nat) (c : List Int32) (d : Nms → Int32) (x : Int32) (Mx : Nat → Nat → Int32) (Lx : Nat → Nat → Int64), m ≤ j + k → i < j → PST o r m b nm f j Mx Lx → x = d nm → gLoop b m oAdd sub k c d j = g i → (∀ b k, ¬ PD o b k → Mx b k = M b k) → (∀ b k, ¬ (b = o ∧ k = 27) → Lx b k = L b k) → JJ G sc yX12_added cX12_added 4 (some .int) (ds + 1) 0 0 (PPO o r m b nm f i n S P (g i) M L) 5 [(1, .int x), (0, .ref o)] [] (n, S, Mx, Lx, P) := by
    intro k
    induction k with
    | zero =>
      intro j c d x Mx Lx hmk hij hpx hxd htar hfx hlx
      refine JJ_aload_n dX12_added_5 rfl rfl ?_
      refine JJ_bipush (v := 43) dX12_added_6 rfl ?_
      refine JJ_callV (rest := []) hR.1 rfl rfl (kp_isSign (c := 43) hpx.2.2.2.1 hpx.2.2.2.2.2.2 (by decide) hR hX) (by omega) mi_X12_isSign lk_X12_199 rfl (Nat.le_of_ble_eq_true rfl) rfl rfl dX12_added_8 ?_
      intro v12 μ13 h14
      obtain ⟨rfl, rfl⟩ := h14
      refine JJ_r1 ?_
      refine JJ_if_ne (tgt := 23) dX12_added_11 (by decide) (fun c15 => absurd (b2_f (by rw [tok_0 (j := j) hmk]; decide)) c15) (fun _ => ?_)
      refine JJ_aload_n dX12_added_14 rfl rfl ?_
      refine JJ_bipush (v := 45) dX12_added_15 rfl ?_
      refine JJ_callV (rest := []) hR.1 rfl rfl (kp_isSign (c := 45) hpx.2.2.2.1 hpx.2.2.2.2.2.2 (by decide) hR hX) (by omega) mi_X12_isSign lk_X12_199 rfl (Nat.le_of_ble_eq_true rfl) rfl rfl dX12_added_17 ?_
      intro v16 μ17 h18
      obtain ⟨rfl, rfl⟩ := h18
      refine JJ_r1 ?_
      refine JJ_if_eq (tgt := 66) dX12_added_20 (by decide) (fun _ => ?_) (fun c19 => absurd (b2_f (by rw [tok_0 (j := j) hmk]; decide)) c19)
      refine JJ_iload_n dX12_added_66 rfl rfl ?_
      refine JJ_iret dX12_added_67 rfl ?_
      exact ⟨_, Mx, Lx, rfl, rfl, hfx, hlx, by rw [← htar]; exact ⟨hxd, hij, hpx⟩⟩
    | succ k ih =>
      intro j c d x Mx Lx hmk hij hpx hxd htar hfx hlx
      refine JJ_aload_n dX12_added_5 rfl rfl ?_
      refine JJ_bipush (v := 43) dX12_added_6 rfl ?_
      refine JJ_callV (rest := []) hR.1 rfl rfl (kp_isSign (c := 43) hpx.2.2.2.1 hpx.2.2.2.2.2.2 (by decide) hR hX) (by omega) mi_X12_isSign lk_X12_199 rfl (Nat.le_of_ble_eq_true rfl) rfl rfl dX12_added_8 ?_
      intro v20 μ21 h22
      obtain ⟨rfl, rfl⟩ := h22
      refine JJ_r1 ?_
      refine JJ_if_ne (tgt := 23) dX12_added_11 (by decide) (fun c23 => ?_) (fun c23 => ?_)
      · skip
        have htk : (tok b m j).1 = 43 := b2_n.mp c23
        refine JJ_aload_n dX12_added_23 rfl rfl ?_
        refine JJ_getl (v := (43 : Int32).toInt64) (cis := [12]) (k := 27) fa_X12_151 (by decide) hR.1 rfl (hX.1 27) (tks_sg24 hpx.2.2.2.2.2.2 (by decide) htk).2 dX12_added_24 ?_
        refine JJ_ldc2 (v := 43) dX12_added_27 tb_1199 ?_
        refine JJ_lcmp dX12_added_30 ?_
        refine JJ_if_ne (tgt := 38) dX12_added_31 (by decide) (fun c24 => absurd (by decide) c24) (fun _ => ?_)
        refine JJ_iconst (v := 1) dX12_added_34 rfl ?_
        refine JJ_goto (tgt := 39) dX12_added_35 (by decide) ?_
        refine JJ_istore_n (lv' := [(2, .int 1), (1, .int x), (0, .ref o)]) dX12_added_39 rfl (by decide) rfl ?_
        refine JJ_aload_n dX12_added_40 rfl rfl ?_
        have hte := tks_e hpx.2.2.2.2.2.2 (by rw [htk]; decide)
        refine JJ_callV (rest := []) hR.1 rfl rfl (kp_nx hpx.1 hpx.2.1 hte.2.2 hpx.2.2.2.1 hpx.2.2.2.2.1 hpx.2.2.2.2.2.1 hB (tks_sg24 hpx.2.2.2.2.2.2 (by decide) htk).1 hR hX) (by omega) mi_X12_next lk_X12_174 rfl (Nat.le_of_ble_eq_true rfl) rfl rfl dX12_added_41 ?_
        intro v25 μ26 h27
        obtain ⟨rfl, Mc, Lc, rfl, hpc, hfc, hlc⟩ := h27
        refine JJ_r0 ?_
        refine JJ_aload_n dX12_added_44 rfl rfl ?_
        refine JJ_callV (rest := []) hR.1 rfl rfl (hsub _ Mc Lc hpc) (by omega) mi_X12_term lk_X12_216 rfl (Nat.le_of_ble_eq_true rfl) rfl rfl dX12_added_45 ?_
        intro v28 μ29 h30
        obtain ⟨y, Md, Ld, rfl, rfl, hfd, hld, hmd⟩ := h30
        refine JJ_r1 ?_
        refine JJ_istore_n (lv' := [(3, .int y), (2, .int 1), (1, .int x), (0, .ref o)]) dX12_added_48 rfl (by decide) rfl ?_
        refine JJ_iload_n dX12_added_49 rfl rfl ?_
        refine JJ_if_eq (tgt := 59) dX12_added_50 (by decide) (fun c31 => absurd c31 (by decide)) (fun _ => ?_)
        refine JJ_iload_n dX12_added_53 rfl rfl ?_
        refine JJ_iload_n dX12_added_54 rfl rfl ?_
        refine JJ_iadd dX12_added_55 ?_
        refine JJ_goto (tgt := 62) dX12_added_56 (by decide) ?_
        refine JJ_istore_n (lv' := [(1, .int (x + y)), (3, .int y), (2, .int 1), (0, .ref o)]) dX12_added_62 rfl (by decide) rfl ?_
        refine JJ_goto (tgt := 5) dX12_added_63 (by decide) ?_
        rcases hg2 : sub (tok b m j).2.2.2 with q | ⟨c2, d2, j2⟩
        · skip
          rw [hg2] at hmd
          obtain ⟨b29, b30⟩ : Md o 29 = 1 ∧ Md o 30 = nI q := hmd
          refine JJ_aload_n dX12_added_5 rfl rfl ?_
          refine JJ_bipush (v := 43) dX12_added_6 rfl ?_
          refine JJ_callV (rest := []) hR.1 rfl rfl (kp_isSign1 b29 hR hX) (by omega) mi_X12_isSign lk_X12_199 rfl (Nat.le_of_ble_eq_true rfl) rfl rfl dX12_added_8 ?_
          intro v32 μ33 h34
          obtain ⟨rfl, rfl⟩ := h34
          refine JJ_r1 ?_
          refine JJ_if_ne (tgt := 23) dX12_added_11 (by decide) (fun c35 => absurd (by decide) c35) (fun _ => ?_)
          refine JJ_aload_n dX12_added_14 rfl rfl ?_
          refine JJ_bipush (v := 45) dX12_added_15 rfl ?_
          refine JJ_callV (rest := []) hR.1 rfl rfl (kp_isSign1 b29 hR hX) (by omega) mi_X12_isSign lk_X12_199 rfl (Nat.le_of_ble_eq_true rfl) rfl rfl dX12_added_17 ?_
          intro v36 μ37 h38
          obtain ⟨rfl, rfl⟩ := h38
          refine JJ_r1 ?_
          refine JJ_if_eq (tgt := 66) dX12_added_20 (by decide) (fun _ => ?_) (fun c39 => absurd (by decide) c39)
          refine JJ_iload_n dX12_added_66 rfl rfl ?_
          refine JJ_iret dX12_added_67 rfl ?_
          exact ⟨_, Md, Ld, rfl, rfl, (fun b k z => (hfd b k z).trans ((hfc b k z).trans (hfx b k z))), (fun b k z => (hld b k z).trans ((hlc b k z).trans (hlx b k z))), by rw [← htar, gl_in (if_pos htk) hg2]; exact ⟨b29, b30⟩⟩
        rw [hg2] at hmd
        obtain ⟨hyd, hjj, hpd⟩ : y = d2 nm ∧ (tok b m j).2.2.2 < j2 ∧ PST o r m b nm f j2 Md Ld := hmd
        refine JJ.pick [0, 3] rfl ?_
        exact ih j2 _ _ _ Md Ld (by omega) (by omega) hpd (by rw [hxd, hyd]) ((gl_go (if_pos htk) hg2).symm.trans htar) (fun b k z => (hfd b k z).trans ((hfc b k z).trans (hfx b k z))) (fun b k z => (hld b k z).trans ((hlc b k z).trans (hlx b k z)))
      · skip
        refine JJ_aload_n dX12_added_14 rfl rfl ?_
        refine JJ_bipush (v := 45) dX12_added_15 rfl ?_
        refine JJ_callV (rest := []) hR.1 rfl rfl (kp_isSign (c := 45) hpx.2.2.2.1 hpx.2.2.2.2.2.2 (by decide) hR hX) (by omega) mi_X12_isSign lk_X12_199 rfl (Nat.le_of_ble_eq_true rfl) rfl rfl dX12_added_17 ?_
        intro v40 μ41 h42
        obtain ⟨rfl, rfl⟩ := h42
        refine JJ_r1 ?_
        refine JJ_if_eq (tgt := 66) dX12_added_20 (by decide) (fun c43 => ?_) (fun c43 => ?_)
        · skip
          refine JJ_iload_n dX12_added_66 rfl rfl ?_
          refine JJ_iret dX12_added_67 rfl ?_
          exact ⟨_, Mx, Lx, rfl, rfl, hfx, hlx, by rw [← htar, gl_no ((if_neg (b2_0.mp c23)).trans (if_neg (b2_0.mp c43)))]; exact ⟨hxd, hij, hpx⟩⟩
        · skip
          have htk : (tok b m j).1 = 45 := b2_n.mp c43
          refine JJ_aload_n dX12_added_23 rfl rfl ?_
          refine JJ_getl (v := (45 : Int32).toInt64) (cis := [12]) (k := 27) fa_X12_151 (by decide) hR.1 rfl (hX.1 27) (tks_sg24 hpx.2.2.2.2.2.2 (by decide) htk).2 dX12_added_24 ?_
          refine JJ_ldc2 (v := 43) dX12_added_27 tb_1199 ?_
          refine JJ_lcmp dX12_added_30 ?_
          refine JJ_if_ne (tgt := 38) dX12_added_31 (by decide) (fun _ => ?_) (fun c44 => absurd c44 (by decide))
          refine JJ_iconst (v := 0) dX12_added_38 rfl ?_
          refine JJ_istore_n (lv' := [(2, .int 0), (1, .int x), (0, .ref o)]) dX12_added_39 rfl (by decide) rfl ?_
          refine JJ_aload_n dX12_added_40 rfl rfl ?_
          have hte := tks_e hpx.2.2.2.2.2.2 (by rw [htk]; decide)
          refine JJ_callV (rest := []) hR.1 rfl rfl (kp_nx hpx.1 hpx.2.1 hte.2.2 hpx.2.2.2.1 hpx.2.2.2.2.1 hpx.2.2.2.2.2.1 hB (tks_sg24 hpx.2.2.2.2.2.2 (by decide) htk).1 hR hX) (by omega) mi_X12_next lk_X12_174 rfl (Nat.le_of_ble_eq_true rfl) rfl rfl dX12_added_41 ?_
          intro v45 μ46 h47
          obtain ⟨rfl, Mc, Lc, rfl, hpc, hfc, hlc⟩ := h47
          refine JJ_r0 ?_
          refine JJ_aload_n dX12_added_44 rfl rfl ?_
          refine JJ_callV (rest := []) hR.1 rfl rfl (hsub _ Mc Lc hpc) (by omega) mi_X12_term lk_X12_216 rfl (Nat.le_of_ble_eq_true rfl) rfl rfl dX12_added_45 ?_
          intro v48 μ49 h50
          obtain ⟨y, Md, Ld, rfl, rfl, hfd, hld, hmd⟩ := h50
          refine JJ_r1 ?_
          refine JJ_istore_n (lv' := [(3, .int y), (2, .int 0), (1, .int x), (0, .ref o)]) dX12_added_48 rfl (by decide) rfl ?_
          refine JJ_iload_n dX12_added_49 rfl rfl ?_
          refine JJ_if_eq (tgt := 59) dX12_added_50 (by decide) (fun _ => ?_) (fun c51 => absurd (by decide) c51)
          refine JJ_iload_n dX12_added_59 rfl rfl ?_
          refine JJ_iload_n dX12_added_60 rfl rfl ?_
          refine JJ_isub dX12_added_61 ?_
          refine JJ_istore_n (lv' := [(1, .int (x - y)), (3, .int y), (2, .int 0), (0, .ref o)]) dX12_added_62 rfl (by decide) rfl ?_
          refine JJ_goto (tgt := 5) dX12_added_63 (by decide) ?_
          rcases hg2 : sub (tok b m j).2.2.2 with q | ⟨c2, d2, j2⟩
          · skip
            rw [hg2] at hmd
            obtain ⟨b29, b30⟩ : Md o 29 = 1 ∧ Md o 30 = nI q := hmd
            refine JJ_aload_n dX12_added_5 rfl rfl ?_
            refine JJ_bipush (v := 43) dX12_added_6 rfl ?_
            refine JJ_callV (rest := []) hR.1 rfl rfl (kp_isSign1 b29 hR hX) (by omega) mi_X12_isSign lk_X12_199 rfl (Nat.le_of_ble_eq_true rfl) rfl rfl dX12_added_8 ?_
            intro v52 μ53 h54
            obtain ⟨rfl, rfl⟩ := h54
            refine JJ_r1 ?_
            refine JJ_if_ne (tgt := 23) dX12_added_11 (by decide) (fun c55 => absurd (by decide) c55) (fun _ => ?_)
            refine JJ_aload_n dX12_added_14 rfl rfl ?_
            refine JJ_bipush (v := 45) dX12_added_15 rfl ?_
            refine JJ_callV (rest := []) hR.1 rfl rfl (kp_isSign1 b29 hR hX) (by omega) mi_X12_isSign lk_X12_199 rfl (Nat.le_of_ble_eq_true rfl) rfl rfl dX12_added_17 ?_
            intro v56 μ57 h58
            obtain ⟨rfl, rfl⟩ := h58
            refine JJ_r1 ?_
            refine JJ_if_eq (tgt := 66) dX12_added_20 (by decide) (fun _ => ?_) (fun c59 => absurd (by decide) c59)
            refine JJ_iload_n dX12_added_66 rfl rfl ?_
            refine JJ_iret dX12_added_67 rfl ?_
            exact ⟨_, Md, Ld, rfl, rfl, (fun b k z => (hfd b k z).trans ((hfc b k z).trans (hfx b k z))), (fun b k z => (hld b k z).trans ((hlc b k z).trans (hlx b k z))), by rw [← htar, gl_in ((if_neg (b2_0.mp c23)).trans (if_pos htk)) hg2]; exact ⟨b29, b30⟩⟩
          rw [hg2] at hmd
          obtain ⟨hyd, hjj, hpd⟩ : y = d2 nm ∧ (tok b m j).2.2.2 < j2 ∧ PST o r m b nm f j2 Md Ld := hmd
          refine JJ.pick [0, 3] rfl ?_
          exact ih j2 _ _ _ Md Ld (by omega) (by omega) hpd (by rw [hxd, hyd]) ((gl_go ((if_neg (b2_0.mp c23)).trans (if_pos htk)) hg2).symm.trans htar) (fun b k z => (hfd b k z).trans ((hfc b k z).trans (hfx b k z))) (fun b k z => (hld b k z).trans ((hlc b k z).trans (hlx b k z)))
  refine JJ.pick [0, 1] rfl ?_
  exact key 160 j c d x Ma La (by have := hp.1.2.1; omega) hij hpj hxd hgt hfa hla
end RX1
