section C14
variable {G : Gx} {sc : Nat → Nat → Prop} {n : Nat} {S : Nat → Nat × Nat} {M : Nat → Nat → Int32} {L : Nat → Nat → Int64} {P : Nat → Nat → Option Nat} {x : Nat} {A B : Abs}

theorem zbest_mem {f : Nat → Int32} : ∀ d k most found, (zbest f d k most found).1 = most ∨ ∃ j, j < k + d ∧ (zbest f d k most found).1 = f j := by
  intro d
  induction d with
  | zero => intro k most found; exact Or.inl rfl
  | succ d ih =>
    intro k most found
    by_cases h : most < 1
    · by_cases h2 : most < f k
      · rw [zbest_1 h h2]
        rcases ih (k + 1) (f k) (nI k) with e | ⟨j, hj, e⟩
        · exact Or.inr ⟨k, by omega, e⟩
        · exact Or.inr ⟨j, by omega, e⟩
      · rw [zbest_0 h h2]
        rcases ih (k + 1) most found with e | ⟨j, hj, e⟩
        · exact Or.inl e
        · exact Or.inr ⟨j, by omega, e⟩
    · rw [zbest_x h]
      exact Or.inl rfl
theorem zbest_ge {f : Nat → Int32} : ∀ d k most found, most ≤ (zbest f d k most found).1 := by
  intro d
  induction d with
  | zero => intro k most found; exact Int32.le_refl _
  | succ d ih =>
    intro k most found
    by_cases h : most < 1
    · by_cases h2 : most < f k
      · rw [zbest_1 h h2]
        exact Int32.le_trans (Int32.le_of_lt h2) (ih _ _ _)
      · rw [zbest_0 h h2]
        exact ih _ _ _
    · rw [zbest_x h]
      exact Int32.le_refl _
abbrev m3 (v : Int32) : Prop := v = -1 ∨ v = 0 ∨ v = 1
theorem zval_3 : ∀ (m : Nat) (B : Abs) (p : Nat), p < 2 → RNG B → m3 (zval m B p).1 := by
  intro m
  induction m with
  | zero => intro B p _ _; exact Or.inr (Or.inl rfl)
  | succ m ih =>
    intro B p hp hg
    obtain ⟨cn, hc6, hcA, hcZ⟩ := cnt_e hg
    by_cases h0 : B.1 8 0 = 0
    · rw [zval_0 h0]; exact Or.inr (Or.inl rfl)
    · rw [zval_s h0]
      have hf : ∀ k, k < cn → m3 (zf m B p k) := by
        intro k hk
        show m3 (if zw B k p then 1 else -(zval m (zPut B (za B k p)) (1 - p)).1)
        split
        · exact Or.inr (Or.inr rfl)
        · rcases ih (zPut B (za B k p)) (1 - p) (by omega) (rng_sa hg hp (by omega)) with e | e | e
          · rw [e]; exact Or.inr (Or.inr rfl)
          · rw [e]; exact Or.inr (Or.inl rfl)
          · rw [e]; exact Or.inl rfl
      have hc0 : ¬ cn = 0 := fun z => h0 (by rw [hcA, z]; rfl)
      rw [hcZ]
      obtain ⟨d, rfl⟩ : ∃ d, cn = d + 1 := ⟨cn - 1, by omega⟩
      have h1 : (-2 : Int32) < zf m B p 0 := by
        rcases hf 0 (by omega) with e | e | e <;> (rw [e]; decide)
      rw [zbest_1 (by decide) h1]
      rcases zbest_mem (f := zf m B p) d 1 (zf m B p 0) (nI 0) with e | ⟨j, hj, e⟩
      · rw [e]; exact hf 0 (by omega)
      · rw [e]; exact hf j (by omega)
theorem zf_3 {m : Nat} {p q : Nat} (hg : RNG B) (hp : p < 2) (hq : q < zcnt B) : m3 (zf m B p q) := by
  obtain ⟨cn, hc6, hcA, hcZ⟩ := cnt_e hg
  show m3 (if zw B q p then 1 else -(zval m (zPut B (za B q p)) (1 - p)).1)
  split
  · exact Or.inr (Or.inr rfl)
  · rcases zval_3 m (zPut B (za B q p)) (1 - p) (by omega) (rng_sa hg hp (by omega)) with e | e | e
    · rw [e]; exact Or.inr (Or.inr rfl)
    · rw [e]; exact Or.inr (Or.inl rfl)
    · rw [e]; exact Or.inl rfl
/-- what looking ahead changes -/
def VD (x m b k : Nat) : Prop := (x + 49 ≤ b ∧ b < x + 52 + 3 * m) ∨ (b = x ∧ k = 17)
def VP (x m b k : Nat) : Prop := (x + 49 ≤ b ∧ b < x + 52 + 3 * m) ∧ k = 3
theorem VD.up {m b k : Nat} (h : VD x m b k) : VD x (m + 1) b k := by unfold VD at *; omega
theorem VP.up {m b k : Nat} (h : VP x m b k) : VP x (m + 1) b k := by unfold VP at *; omega
/-- the value for who strikes, from a court that is B's -/
def VF (G : Gx) (sc : Nat → Nat → Prop) (n : Nat) (S : Nat → Nat × Nat) (x m : Nat) : Prop := ∀ (c p : Nat) (e : Int32) (B : Abs) (M : Nat → Nat → Int32) (L : Nat → Nat → Int64) (P : Nat → Nat → Option Nat), p < 2 → (e = 0 ∨ e = 1) → CTA x c P M B → (c = x + 40 ∨ x + 49 + 3 * (m + 1) ≤ c) → TXS x M B → STS x n S P M B → RN3 B → CWF x S P → HSC x sc →
  KK G sc yX11_valueFor cX11_valueFor 9 (some .int) (9 + 2 * m) 0 0 [.ref x, .ref c, .int (nI p), .int (nI m), .int e] (n, S, M, L, P) (fun v μ => ∃ r M' L' P', v = some (.int r) ∧ μ = (n, S, M', L', P') ∧ (r = (zval m B p).1 ∨ (e ≤ r ∧ r ≤ (zval m B p).1)) ∧ (e = 1 → M' x 17 = (zval m B p).2) ∧ (∀ b k, ¬ VD x m b k → M' b k = M b k) ∧ ∀ b k, ¬ VP x m b k → P' b k = P b k)
theorem CTA_take {c e : Nat} {M' : Nat → Nat → Int32} {P' : Nat → Nat → Option Nat} (hc : CTA x e P M B) (h0 : CRT0 x c) (h1 : ∀ p k, p < 2 → k < 4 → M' (c + 1 + p) k = M (e + 1 + p) k) (h2 : M' c 2 = M e 2) (h3 : P' = up2 P c 3 (some (x + 10 + 5 * i2n (B.1 9 0)))) : CTA x c P' M' B := by
  refine ⟨h0, fun p hp => ?_, h2.trans hc.w, rd_s h3⟩
  rw [h1 p 0 hp (by decide), h1 p 1 hp (by decide), h1 p 2 hp (by decide), h1 p 3 hp (by decide)]
  exact hc.2.1 p hp
theorem neg_1 : (-(-1) : Int32) = 1 := rfl
theorem vb_eq {most e' v w : Int32} (hm : (most = -2 ∧ e' = 1) ∨ (most = -1 ∧ e' = 1) ∨ (most = 0 ∧ e' = 0)) (hw : m3 w) (h : v = w ∨ (e' ≤ v ∧ v ≤ w)) : -v = -w ∨ (-v ≤ most ∧ -w ≤ most) := by
  rcases h with rfl | ⟨h1, h2⟩
  · exact Or.inl rfl
  · have t0 : (0 : Int32).toInt = 0 := rfl
    have t1 : (1 : Int32).toInt = 1 := rfl
    rw [i_le] at h1 h2
    have hv : v = w ∨ (most = 0 ∧ v = 0 ∧ w = 1) := by
      rcases hm with ⟨rfl, rfl⟩ | ⟨rfl, rfl⟩ | ⟨rfl, rfl⟩
      · rcases hw with rfl | rfl | rfl
        · rw [t1, show (-1 : Int32).toInt = -1 from rfl] at *; omega
        · rw [t1, t0] at *; omega
        · exact Or.inl (by rw [i_eq]; omega)
      · rcases hw with rfl | rfl | rfl
        · rw [t1, show (-1 : Int32).toInt = -1 from rfl] at *; omega
        · rw [t1, t0] at *; omega
        · exact Or.inl (by rw [i_eq]; omega)
      · rcases hw with rfl | rfl | rfl
        · rw [t0, show (-1 : Int32).toInt = -1 from rfl] at *; omega
        · exact Or.inl (by rw [i_eq]; omega)
        · by_cases e : v.toInt = 0
          · exact Or.inr ⟨rfl, by rw [i_eq]; omega, rfl⟩
          · exact Or.inl (by rw [i_eq]; omega)
    rcases hv with rfl | ⟨rfl, rfl, rfl⟩
    · exact Or.inl rfl
    · exact Or.inr ⟨by decide, by decide⟩
theorem STS_put {κ : Crt} (h : STS x n S P M B) : STS x n S P M (zPut B κ) := by
  unfold STS at *
  rw [zPut_zcnt, zPut_cnt]
  refine ⟨h.1, fun q hq => ?_, h.2.2⟩
  rw [zPut_o (by decide), zPut_o (by decide), zPut_o (by decide)]
  exact h.2.1 q hq
set_option maxHeartbeats 4000000 in
set_option maxRecDepth 100000 in
theorem kc_valueBy {m c p q a : Nat} {most : Int32} (IH : VF G sc n S x m) (hm5 : m + 1 ≤ 5) (hp : p < 2) (hq : q < zcnt B) (hsk : STK S M a (B.1 5 q) (B.1 6 q) (B.1 7 q)) (ha1 : x + 94 ≤ a) (hm : most = -2 ∨ most = -1 ∨ most = 0) (hct : CTA x c P M B) (hcc : c = x + 40 ∨ x + 49 + 3 * (m + 1 + 1) ≤ c) (ht : TXS x M B) (hst : STS x n S P M B) (hg3 : RN3 B) (hC : CWF x S P) (hX : HSC x sc) : KK G sc yX11_valueBy cX11_valueBy 7 (some .int) (10 + 2 * m) 0 0 [.ref x, .ref c, .int (nI p), .ref a, .int (nI (m + 1)), .int most] (n, S, M, L, P) (fun v μ => ∃ r M' L' P', v = some (.int r) ∧ μ = (n, S, M', L', P') ∧ (r = zf m B p q ∨ (r ≤ most ∧ zf m B p q ≤ most)) ∧ (∀ b k, ¬ VD x (m + 1) b k → M' b k = M b k) ∧ ∀ b k, ¬ VP x (m + 1) b k → P' b k = P b k) := by
  have hg := hg3.1
  have hpq : 1 - p < 2 := by omega
  have hat := hct.1.at
  have h6 := (rul_lt hg).2
  rcases Nat.eq_zero_or_pos m with rfl | hm0
  · skip
    have e0 : zf 0 B p q = b2 (zw B q p) := by show (if zw B q p then (1 : Int32) else -0) = _; unfold b2; split <;> rfl
    refine KK_of2 [(0, .ref x), (1, .ref c), (2, .int (nI p)), (3, .ref a), (4, .int 1), (5, .int most)] (by decide +kernel) (Nat.le_of_ble_eq_true rfl) rfl ?_
    refine JJ_aload_n dX11_valueBy_0 rfl rfl ?_
    refine JJ_ifnullR dX11_valueBy_1 ?_
    refine JJ_iload dX11_valueBy_4 rfl ?_
    refine JJ_iconst (v := 1) dX11_valueBy_6 rfl ?_
    refine JJ_icmp_lt (tgt := 20) dX11_valueBy_7 (by decide) (fun c1 => absurd c1 (by decide)) (fun _ => ?_)
    refine JJ_iload dX11_valueBy_10 rfl ?_
    refine JJ_aload_n dX11_valueBy_12 rfl rfl ?_
    refine JJ_getr (q := x + 5) (cis := [11]) (k := 7) fa_X11_37 (by decide) (congrArg Prod.fst (hC.sh (t := 0) (k := 12) (m := 0) (by decide))) rfl (hC.rf (t := 0) (s := 7) (u := 5) (by decide)) dX11_valueBy_13 ?_
    refine JJ_alen (t := 4) (hC.sh (t := 5) (k := 24) (m := 6) (by decide)) (by decide) dX11_valueBy_16 ?_
    refine JJ_icmp_lt (tgt := 22) dX11_valueBy_17 (by decide) (fun _ => ?_) (fun c2 => absurd (by decide) c2)
    refine JJ_iload dX11_valueBy_22 rfl ?_
    refine JJ_iconst (v := 1) dX11_valueBy_24 rfl ?_
    refine JJ_icmp_ne (tgt := 43) dX11_valueBy_25 (by decide) (fun c3 => absurd (by decide) c3) (fun _ => ?_)
    refine JJ_aload_n dX11_valueBy_28 rfl rfl ?_
    refine JJ_iload_n dX11_valueBy_29 rfl rfl ?_
    refine JJ_aload_n dX11_valueBy_30 rfl rfl ?_
    refine JJ_callV (rest := []) (congrArg Prod.fst (hct.1.sh hC).1) rfl rfl (kc_wouldA (q := q) hp hsk ha1 hct ht hg hC hX) (by omega) mi_X1_wouldWin lk_X11_217 rfl (Nat.le_of_ble_eq_true rfl) rfl rfl dX11_valueBy_31 ?_
    intro v4 μ5 h6
    obtain ⟨rfl, rfl⟩ := h6
    refine JJ_r1 ?_
    refine JJ_if_eq (tgt := 41) dX11_valueBy_34 (by decide) (fun c7 => ?_) (fun c7 => ?_)
    · skip
      refine JJ_iconst (v := 0) dX11_valueBy_41 rfl ?_
      refine JJ_iret dX11_valueBy_42 rfl ?_
      exact ⟨_, M, L, P, rfl, rfl, Or.inl (by rw [e0, b2_f (b2_0.mp c7)]), fun _ _ _ => rfl, fun _ _ _ => rfl⟩
    · skip
      refine JJ_iconst (v := 1) dX11_valueBy_37 rfl ?_
      refine JJ_goto (tgt := 42) dX11_valueBy_38 (by decide) ?_
      refine JJ_iret dX11_valueBy_42 rfl ?_
      exact ⟨_, M, L, P, rfl, rfl, Or.inl (by rw [e0, b2_t (b2_n.mp c7)]), fun _ _ _ => rfl, fun _ _ _ => rfl⟩
  have e0 : zf m B p q = if zw B q p then 1 else -(zval m (zPut B (za B q p)) (1 - p)).1 := rfl
  have hC0 : CRT0 x (x + 49 + 3 * (m + 1)) := ⟨3 + (m + 1), by omega, by omega⟩
  have hahd : P (x + 5) (m + 1) = some (x + 49 + 3 * (m + 1)) := hC.ahd (by omega)
  rcases hm with rfl | rfl | rfl
  · skip
    refine KK_of2 [(0, .ref x), (1, .ref c), (2, .int (nI p)), (3, .ref a), (4, .int (nI (m + 1))), (5, .int ((-2)))] (by decide +kernel) (Nat.le_of_ble_eq_true rfl) rfl ?_
    refine JJ_aload_n dX11_valueBy_0 rfl rfl ?_
    refine JJ_ifnullR dX11_valueBy_1 ?_
    refine JJ_iload dX11_valueBy_4 rfl ?_
    refine JJ_iconst (v := 1) dX11_valueBy_6 rfl ?_
    refine JJ_icmp_lt (tgt := 20) dX11_valueBy_7 (by decide) (fun c8 => absurd c8 (nI_n1 (k := m) (by omega))) (fun _ => ?_)
    refine JJ_iload dX11_valueBy_10 rfl ?_
    refine JJ_aload_n dX11_valueBy_12 rfl rfl ?_
    refine JJ_getr (q := x + 5) (cis := [11]) (k := 7) fa_X11_37 (by decide) (congrArg Prod.fst (hC.sh (t := 0) (k := 12) (m := 0) (by decide))) rfl (hC.rf (t := 0) (s := 7) (u := 5) (by decide)) dX11_valueBy_13 ?_
    refine JJ_alen (t := 4) (hC.sh (t := 5) (k := 24) (m := 6) (by decide)) (by decide) dX11_valueBy_16 ?_
    refine JJ_icmp_lt (tgt := 22) dX11_valueBy_17 (by decide) (fun _ => ?_) (fun c9 => absurd (nI_lt1 (m := 6) (by omega) (by omega)) c9)
    refine JJ_iload dX11_valueBy_22 rfl ?_
    refine JJ_iconst (v := 1) dX11_valueBy_24 rfl ?_
    refine JJ_icmp_ne (tgt := 43) dX11_valueBy_25 (by decide) (fun _ => ?_) (fun c10 => absurd c10 (fun e => absurd (nI_inj (a := m + 1) (b := 1) (by omega) (by omega) e) (by omega)))
    refine JJ_aload_n dX11_valueBy_43 rfl rfl ?_
    refine JJ_getr (q := x + 5) (cis := [11]) (k := 7) fa_X11_37 (by decide) (congrArg Prod.fst (hC.sh (t := 0) (k := 12) (m := 0) (by decide))) rfl (hC.rf (t := 0) (s := 7) (u := 5) (by decide)) dX11_valueBy_44 ?_
    refine JJ_iload dX11_valueBy_47 rfl ?_
    refine JJ_aaldX (t := 2) (q := x + 49 + 3 * (m + 1)) (hC.sh (t := 5) (k := 24) (m := 6) (by decide)) (by decide) (IX_nI (by omega) (by omega)) (hC.ahd (by omega)) dX11_valueBy_49 ?_
    refine JJ_astore (lv' := [(6, .ref (x + 49 + 3 * (m + 1))), (0, .ref x), (1, .ref c), (2, .int (nI p)), (3, .ref a), (4, .int (nI (m + 1))), (5, .int ((-2)))]) dX11_valueBy_50 (by decide) rfl ?_
    refine JJ_aload dX11_valueBy_52 rfl ?_
    refine JJ_aload_n dX11_valueBy_54 rfl rfl ?_
    refine JJ_callV (rest := []) (congrArg Prod.fst (hC0.sh hC).1) rfl rfl (kc_take (c := x + 49 + 3 * (m + 1)) (e := c) (by omega) hC0 hct.1 hct.2.2.2 hC hX) (by omega) mi_X1_take lk_X11_245 rfl (Nat.le_of_ble_eq_true rfl) rfl rfl dX11_valueBy_55 ?_
    intro v11 μ12 h13
    obtain ⟨rfl, Ma, Pa, rfl, htk1, htk2, htk3, htk4⟩ := h13
    refine JJ_r0 ?_
    have hPa : ∀ b k, ¬ VP x (m + 1) b k → Pa b k = P b k := fun b k z => rd_n htk4 (fun e => z (by unfold VP; omega)) rfl
    have hMa : ∀ b k, ¬ VD x (m + 1) b k → Ma b k = M b k := fun b k z => htk3 b k (by unfold VD at z; omega)
    have hctA : CTA x (x + 49 + 3 * (m + 1)) Pa Ma B := CTA_take hct hC0 htk1 htk2 htk4
    have hCa : CWF x S Pa := hC.keep (fun b k z1 z2 z => hPa b k (fun y => z (by unfold VP at y; unfold CQP; omega)))
    have htA : TXS x Ma B := ht.keep (fun b k z1 z2 => hMa b k (by unfold VD; omega)) h6
    have hstA : STS x n S Pa Ma B := hst.keep (hMa _ _ (by unfold VD; omega)) (fun b k z => hMa b k (by unfold VD; omega)) (fun k => hPa _ _ (by unfold VP; omega))
    have hskA := hsk.keep (M' := Ma) (hMa _ _ (by unfold VD; omega)) (hMa _ _ (by unfold VD; omega))
    refine JJ_aload dX11_valueBy_58 rfl ?_
    refine JJ_iload_n dX11_valueBy_60 rfl rfl ?_
    refine JJ_aload_n dX11_valueBy_61 rfl rfl ?_
    refine JJ_callV (rest := []) (congrArg Prod.fst (hC0.sh hC).1) rfl rfl (kc_strikeA hp hq hskA ha1 hctA htA hg3 hCa hX) (by omega) mi_X1_strike lk_X11_250 rfl (Nat.le_of_ble_eq_true rfl) rfl rfl dX11_valueBy_62 ?_
    intro v14 μ15 h16
    obtain ⟨rfl, Mb, rfl, hctB, hfb⟩ := h16
    refine JJ_r1 ?_
    have hMb : ∀ b k, ¬ VD x (m + 1) b k → Mb b k = M b k := fun b k z => (hfb b k (fun y => z (by unfold CD at y; unfold VD; omega))).trans (hMa b k z)
    refine JJ_if_eq (tgt := 70) dX11_valueBy_65 (by decide) (fun c17 => ?_) (fun c17 => ?_)
    · skip
      refine JJ_aload_n dX11_valueBy_70 rfl rfl ?_
      refine JJ_aload dX11_valueBy_71 rfl ?_
      refine JJ_iconst (v := 1) dX11_valueBy_73 rfl ?_
      refine JJ_iload_n dX11_valueBy_74 rfl rfl ?_
      refine JJ_isub dX11_valueBy_75 ?_
      refine JJ_eqi (x2 := nI (1 - p)) (e_sub1 hp) ?_
      refine JJ_iload dX11_valueBy_76 rfl ?_
      refine JJ_iconst (v := 1) dX11_valueBy_78 rfl ?_
      refine JJ_isub dX11_valueBy_79 ?_
      refine JJ_eqi (x2 := nI m) (pk_sub (a := m + 1) (b := 1) (by omega)) ?_
      refine JJ_iconst (v := 1) dX11_valueBy_80 rfl ?_
      refine JJ_iload dX11_valueBy_81 rfl ?_
      refine JJ_ineg dX11_valueBy_83 ?_
      refine JJ_min lk_X11_313 tb_654 tb_83 tb_655 (Nat.le_of_ble_eq_true rfl) dX11_valueBy_84 ?_
      refine JJ_eqi (x2 := 1) (by decide) ?_
      have hznw := b2_0.mp c17
      have htB : TXS x Mb (zPut B (za B q p)) := by
        have := ht.keep (M' := Mb) (fun b k z1 z2 => hMb b k (by unfold VD; omega)) h6
        exact ⟨fun i hi => this.1 i (by rw [← zPut_o (A := B) (κ := za B q p) (b := 10) (k := 0) (by decide)]; exact hi), this.2⟩
      have hstB : STS x n S Pa Mb (zPut B (za B q p)) := STS_put (hst.keep (hMb _ _ (by unfold VD; omega)) (fun b k z => hMb b k (by unfold VD; omega)) (fun k => hPa _ _ (by unfold VP; omega)))
      refine JJ_callV (rest := []) (congrArg Prod.fst (hC.sh (t := 0) (k := 12) (m := 0) (by decide))) rfl rfl (IH (x + 49 + 3 * (m + 1)) (1 - p) 1 (zPut B (za B q p)) Mb L Pa hpq (by decide) hctB (Or.inr (by omega)) htB hstB (rn3_sa hg3 hp hq) hCa hX) (by omega) mi_X11_valueFor lk_X11_206 rfl (Nat.le_of_ble_eq_true rfl) rfl rfl dX11_valueBy_87 ?_
      intro v18 μ19 h20
      obtain ⟨r, Mc, Lc, Pc, rfl, rfl, hrv, -, hMc, hPc⟩ := h20
      refine JJ_r1 ?_
      refine JJ_ineg dX11_valueBy_90 ?_
      refine JJ_iret dX11_valueBy_91 rfl ?_
      exact ⟨_, Mc, Lc, Pc, rfl, rfl, by rw [e0, if_neg hznw]; exact vb_eq (Or.inl ⟨rfl, rfl⟩) (zval_3 m _ (1 - p) hpq (rn3_sa hg3 hp hq).1) hrv, fun b k z => (hMc b k (fun y => z y.up)).trans (hMb b k z), fun b k z => (hPc b k (fun y => z y.up)).trans (hPa b k z)⟩
    · skip
      refine JJ_iconst (v := 1) dX11_valueBy_68 rfl ?_
      refine JJ_iret dX11_valueBy_69 rfl ?_
      exact ⟨_, Mb, L, Pa, rfl, rfl, Or.inl (by rw [e0, if_pos (b2_n.mp c17)]), hMb, hPa⟩
  · skip
    refine KK_of2 [(0, .ref x), (1, .ref c), (2, .int (nI p)), (3, .ref a), (4, .int (nI (m + 1))), (5, .int ((-1)))] (by decide +kernel) (Nat.le_of_ble_eq_true rfl) rfl ?_
    refine JJ_aload_n dX11_valueBy_0 rfl rfl ?_
    refine JJ_ifnullR dX11_valueBy_1 ?_
    refine JJ_iload dX11_valueBy_4 rfl ?_
    refine JJ_iconst (v := 1) dX11_valueBy_6 rfl ?_
    refine JJ_icmp_lt (tgt := 20) dX11_valueBy_7 (by decide) (fun c21 => absurd c21 (nI_n1 (k := m) (by omega))) (fun _ => ?_)
    refine JJ_iload dX11_valueBy_10 rfl ?_
    refine JJ_aload_n dX11_valueBy_12 rfl rfl ?_
    refine JJ_getr (q := x + 5) (cis := [11]) (k := 7) fa_X11_37 (by decide) (congrArg Prod.fst (hC.sh (t := 0) (k := 12) (m := 0) (by decide))) rfl (hC.rf (t := 0) (s := 7) (u := 5) (by decide)) dX11_valueBy_13 ?_
    refine JJ_alen (t := 4) (hC.sh (t := 5) (k := 24) (m := 6) (by decide)) (by decide) dX11_valueBy_16 ?_
    refine JJ_icmp_lt (tgt := 22) dX11_valueBy_17 (by decide) (fun _ => ?_) (fun c22 => absurd (nI_lt1 (m := 6) (by omega) (by omega)) c22)
    refine JJ_iload dX11_valueBy_22 rfl ?_
    refine JJ_iconst (v := 1) dX11_valueBy_24 rfl ?_
    refine JJ_icmp_ne (tgt := 43) dX11_valueBy_25 (by decide) (fun _ => ?_) (fun c23 => absurd c23 (fun e => absurd (nI_inj (a := m + 1) (b := 1) (by omega) (by omega) e) (by omega)))
    refine JJ_aload_n dX11_valueBy_43 rfl rfl ?_
    refine JJ_getr (q := x + 5) (cis := [11]) (k := 7) fa_X11_37 (by decide) (congrArg Prod.fst (hC.sh (t := 0) (k := 12) (m := 0) (by decide))) rfl (hC.rf (t := 0) (s := 7) (u := 5) (by decide)) dX11_valueBy_44 ?_
    refine JJ_iload dX11_valueBy_47 rfl ?_
    refine JJ_aaldX (t := 2) (q := x + 49 + 3 * (m + 1)) (hC.sh (t := 5) (k := 24) (m := 6) (by decide)) (by decide) (IX_nI (by omega) (by omega)) (hC.ahd (by omega)) dX11_valueBy_49 ?_
    refine JJ_astore (lv' := [(6, .ref (x + 49 + 3 * (m + 1))), (0, .ref x), (1, .ref c), (2, .int (nI p)), (3, .ref a), (4, .int (nI (m + 1))), (5, .int ((-1)))]) dX11_valueBy_50 (by decide) rfl ?_
    refine JJ_aload dX11_valueBy_52 rfl ?_
    refine JJ_aload_n dX11_valueBy_54 rfl rfl ?_
    refine JJ_callV (rest := []) (congrArg Prod.fst (hC0.sh hC).1) rfl rfl (kc_take (c := x + 49 + 3 * (m + 1)) (e := c) (by omega) hC0 hct.1 hct.2.2.2 hC hX) (by omega) mi_X1_take lk_X11_245 rfl (Nat.le_of_ble_eq_true rfl) rfl rfl dX11_valueBy_55 ?_
    intro v24 μ25 h26
    obtain ⟨rfl, Ma, Pa, rfl, htk1, htk2, htk3, htk4⟩ := h26
    refine JJ_r0 ?_
    have hPa : ∀ b k, ¬ VP x (m + 1) b k → Pa b k = P b k := fun b k z => rd_n htk4 (fun e => z (by unfold VP; omega)) rfl
    have hMa : ∀ b k, ¬ VD x (m + 1) b k → Ma b k = M b k := fun b k z => htk3 b k (by unfold VD at z; omega)
    have hctA : CTA x (x + 49 + 3 * (m + 1)) Pa Ma B := CTA_take hct hC0 htk1 htk2 htk4
    have hCa : CWF x S Pa := hC.keep (fun b k z1 z2 z => hPa b k (fun y => z (by unfold VP at y; unfold CQP; omega)))
    have htA : TXS x Ma B := ht.keep (fun b k z1 z2 => hMa b k (by unfold VD; omega)) h6
    have hstA : STS x n S Pa Ma B := hst.keep (hMa _ _ (by unfold VD; omega)) (fun b k z => hMa b k (by unfold VD; omega)) (fun k => hPa _ _ (by unfold VP; omega))
    have hskA := hsk.keep (M' := Ma) (hMa _ _ (by unfold VD; omega)) (hMa _ _ (by unfold VD; omega))
    refine JJ_aload dX11_valueBy_58 rfl ?_
    refine JJ_iload_n dX11_valueBy_60 rfl rfl ?_
    refine JJ_aload_n dX11_valueBy_61 rfl rfl ?_
    refine JJ_callV (rest := []) (congrArg Prod.fst (hC0.sh hC).1) rfl rfl (kc_strikeA hp hq hskA ha1 hctA htA hg3 hCa hX) (by omega) mi_X1_strike lk_X11_250 rfl (Nat.le_of_ble_eq_true rfl) rfl rfl dX11_valueBy_62 ?_
    intro v27 μ28 h29
    obtain ⟨rfl, Mb, rfl, hctB, hfb⟩ := h29
    refine JJ_r1 ?_
    have hMb : ∀ b k, ¬ VD x (m + 1) b k → Mb b k = M b k := fun b k z => (hfb b k (fun y => z (by unfold CD at y; unfold VD; omega))).trans (hMa b k z)
    refine JJ_if_eq (tgt := 70) dX11_valueBy_65 (by decide) (fun c30 => ?_) (fun c30 => ?_)
    · skip
      refine JJ_aload_n dX11_valueBy_70 rfl rfl ?_
      refine JJ_aload dX11_valueBy_71 rfl ?_
      refine JJ_iconst (v := 1) dX11_valueBy_73 rfl ?_
      refine JJ_iload_n dX11_valueBy_74 rfl rfl ?_
      refine JJ_isub dX11_valueBy_75 ?_
      refine JJ_eqi (x2 := nI (1 - p)) (e_sub1 hp) ?_
      refine JJ_iload dX11_valueBy_76 rfl ?_
      refine JJ_iconst (v := 1) dX11_valueBy_78 rfl ?_
      refine JJ_isub dX11_valueBy_79 ?_
      refine JJ_eqi (x2 := nI m) (pk_sub (a := m + 1) (b := 1) (by omega)) ?_
      refine JJ_iconst (v := 1) dX11_valueBy_80 rfl ?_
      refine JJ_iload dX11_valueBy_81 rfl ?_
      refine JJ_ineg dX11_valueBy_83 ?_
      refine JJ_min lk_X11_313 tb_654 tb_83 tb_655 (Nat.le_of_ble_eq_true rfl) dX11_valueBy_84 ?_
      refine JJ_eqi (x2 := 1) (by decide) ?_
      have hznw := b2_0.mp c30
      have htB : TXS x Mb (zPut B (za B q p)) := by
        have := ht.keep (M' := Mb) (fun b k z1 z2 => hMb b k (by unfold VD; omega)) h6
        exact ⟨fun i hi => this.1 i (by rw [← zPut_o (A := B) (κ := za B q p) (b := 10) (k := 0) (by decide)]; exact hi), this.2⟩
      have hstB : STS x n S Pa Mb (zPut B (za B q p)) := STS_put (hst.keep (hMb _ _ (by unfold VD; omega)) (fun b k z => hMb b k (by unfold VD; omega)) (fun k => hPa _ _ (by unfold VP; omega)))
      refine JJ_callV (rest := []) (congrArg Prod.fst (hC.sh (t := 0) (k := 12) (m := 0) (by decide))) rfl rfl (IH (x + 49 + 3 * (m + 1)) (1 - p) 1 (zPut B (za B q p)) Mb L Pa hpq (by decide) hctB (Or.inr (by omega)) htB hstB (rn3_sa hg3 hp hq) hCa hX) (by omega) mi_X11_valueFor lk_X11_206 rfl (Nat.le_of_ble_eq_true rfl) rfl rfl dX11_valueBy_87 ?_
      intro v31 μ32 h33
      obtain ⟨r, Mc, Lc, Pc, rfl, rfl, hrv, -, hMc, hPc⟩ := h33
      refine JJ_r1 ?_
      refine JJ_ineg dX11_valueBy_90 ?_
      refine JJ_iret dX11_valueBy_91 rfl ?_
      exact ⟨_, Mc, Lc, Pc, rfl, rfl, by rw [e0, if_neg hznw]; exact vb_eq (Or.inr (Or.inl ⟨rfl, rfl⟩)) (zval_3 m _ (1 - p) hpq (rn3_sa hg3 hp hq).1) hrv, fun b k z => (hMc b k (fun y => z y.up)).trans (hMb b k z), fun b k z => (hPc b k (fun y => z y.up)).trans (hPa b k z)⟩
    · skip
      refine JJ_iconst (v := 1) dX11_valueBy_68 rfl ?_
      refine JJ_iret dX11_valueBy_69 rfl ?_
      exact ⟨_, Mb, L, Pa, rfl, rfl, Or.inl (by rw [e0, if_pos (b2_n.mp c30)]), hMb, hPa⟩
  · skip
    refine KK_of2 [(0, .ref x), (1, .ref c), (2, .int (nI p)), (3, .ref a), (4, .int (nI (m + 1))), (5, .int 0)] (by decide +kernel) (Nat.le_of_ble_eq_true rfl) rfl ?_
    refine JJ_aload_n dX11_valueBy_0 rfl rfl ?_
    refine JJ_ifnullR dX11_valueBy_1 ?_
    refine JJ_iload dX11_valueBy_4 rfl ?_
    refine JJ_iconst (v := 1) dX11_valueBy_6 rfl ?_
    refine JJ_icmp_lt (tgt := 20) dX11_valueBy_7 (by decide) (fun c34 => absurd c34 (nI_n1 (k := m) (by omega))) (fun _ => ?_)
    refine JJ_iload dX11_valueBy_10 rfl ?_
    refine JJ_aload_n dX11_valueBy_12 rfl rfl ?_
    refine JJ_getr (q := x + 5) (cis := [11]) (k := 7) fa_X11_37 (by decide) (congrArg Prod.fst (hC.sh (t := 0) (k := 12) (m := 0) (by decide))) rfl (hC.rf (t := 0) (s := 7) (u := 5) (by decide)) dX11_valueBy_13 ?_
    refine JJ_alen (t := 4) (hC.sh (t := 5) (k := 24) (m := 6) (by decide)) (by decide) dX11_valueBy_16 ?_
    refine JJ_icmp_lt (tgt := 22) dX11_valueBy_17 (by decide) (fun _ => ?_) (fun c35 => absurd (nI_lt1 (m := 6) (by omega) (by omega)) c35)
    refine JJ_iload dX11_valueBy_22 rfl ?_
    refine JJ_iconst (v := 1) dX11_valueBy_24 rfl ?_
    refine JJ_icmp_ne (tgt := 43) dX11_valueBy_25 (by decide) (fun _ => ?_) (fun c36 => absurd c36 (fun e => absurd (nI_inj (a := m + 1) (b := 1) (by omega) (by omega) e) (by omega)))
    refine JJ_aload_n dX11_valueBy_43 rfl rfl ?_
    refine JJ_getr (q := x + 5) (cis := [11]) (k := 7) fa_X11_37 (by decide) (congrArg Prod.fst (hC.sh (t := 0) (k := 12) (m := 0) (by decide))) rfl (hC.rf (t := 0) (s := 7) (u := 5) (by decide)) dX11_valueBy_44 ?_
    refine JJ_iload dX11_valueBy_47 rfl ?_
    refine JJ_aaldX (t := 2) (q := x + 49 + 3 * (m + 1)) (hC.sh (t := 5) (k := 24) (m := 6) (by decide)) (by decide) (IX_nI (by omega) (by omega)) (hC.ahd (by omega)) dX11_valueBy_49 ?_
    refine JJ_astore (lv' := [(6, .ref (x + 49 + 3 * (m + 1))), (0, .ref x), (1, .ref c), (2, .int (nI p)), (3, .ref a), (4, .int (nI (m + 1))), (5, .int 0)]) dX11_valueBy_50 (by decide) rfl ?_
    refine JJ_aload dX11_valueBy_52 rfl ?_
    refine JJ_aload_n dX11_valueBy_54 rfl rfl ?_
    refine JJ_callV (rest := []) (congrArg Prod.fst (hC0.sh hC).1) rfl rfl (kc_take (c := x + 49 + 3 * (m + 1)) (e := c) (by omega) hC0 hct.1 hct.2.2.2 hC hX) (by omega) mi_X1_take lk_X11_245 rfl (Nat.le_of_ble_eq_true rfl) rfl rfl dX11_valueBy_55 ?_
    intro v37 μ38 h39
    obtain ⟨rfl, Ma, Pa, rfl, htk1, htk2, htk3, htk4⟩ := h39
    refine JJ_r0 ?_
    have hPa : ∀ b k, ¬ VP x (m + 1) b k → Pa b k = P b k := fun b k z => rd_n htk4 (fun e => z (by unfold VP; omega)) rfl
    have hMa : ∀ b k, ¬ VD x (m + 1) b k → Ma b k = M b k := fun b k z => htk3 b k (by unfold VD at z; omega)
    have hctA : CTA x (x + 49 + 3 * (m + 1)) Pa Ma B := CTA_take hct hC0 htk1 htk2 htk4
    have hCa : CWF x S Pa := hC.keep (fun b k z1 z2 z => hPa b k (fun y => z (by unfold VP at y; unfold CQP; omega)))
    have htA : TXS x Ma B := ht.keep (fun b k z1 z2 => hMa b k (by unfold VD; omega)) h6
    have hstA : STS x n S Pa Ma B := hst.keep (hMa _ _ (by unfold VD; omega)) (fun b k z => hMa b k (by unfold VD; omega)) (fun k => hPa _ _ (by unfold VP; omega))
    have hskA := hsk.keep (M' := Ma) (hMa _ _ (by unfold VD; omega)) (hMa _ _ (by unfold VD; omega))
    refine JJ_aload dX11_valueBy_58 rfl ?_
    refine JJ_iload_n dX11_valueBy_60 rfl rfl ?_
    refine JJ_aload_n dX11_valueBy_61 rfl rfl ?_
    refine JJ_callV (rest := []) (congrArg Prod.fst (hC0.sh hC).1) rfl rfl (kc_strikeA hp hq hskA ha1 hctA htA hg3 hCa hX) (by omega) mi_X1_strike lk_X11_250 rfl (Nat.le_of_ble_eq_true rfl) rfl rfl dX11_valueBy_62 ?_
    intro v40 μ41 h42
    obtain ⟨rfl, Mb, rfl, hctB, hfb⟩ := h42
    refine JJ_r1 ?_
    have hMb : ∀ b k, ¬ VD x (m + 1) b k → Mb b k = M b k := fun b k z => (hfb b k (fun y => z (by unfold CD at y; unfold VD; omega))).trans (hMa b k z)
    refine JJ_if_eq (tgt := 70) dX11_valueBy_65 (by decide) (fun c43 => ?_) (fun c43 => ?_)
    · skip
      refine JJ_aload_n dX11_valueBy_70 rfl rfl ?_
      refine JJ_aload dX11_valueBy_71 rfl ?_
      refine JJ_iconst (v := 1) dX11_valueBy_73 rfl ?_
      refine JJ_iload_n dX11_valueBy_74 rfl rfl ?_
      refine JJ_isub dX11_valueBy_75 ?_
      refine JJ_eqi (x2 := nI (1 - p)) (e_sub1 hp) ?_
      refine JJ_iload dX11_valueBy_76 rfl ?_
      refine JJ_iconst (v := 1) dX11_valueBy_78 rfl ?_
      refine JJ_isub dX11_valueBy_79 ?_
      refine JJ_eqi (x2 := nI m) (pk_sub (a := m + 1) (b := 1) (by omega)) ?_
      refine JJ_iconst (v := 1) dX11_valueBy_80 rfl ?_
      refine JJ_iload dX11_valueBy_81 rfl ?_
      refine JJ_ineg dX11_valueBy_83 ?_
      refine JJ_min lk_X11_313 tb_654 tb_83 tb_655 (Nat.le_of_ble_eq_true rfl) dX11_valueBy_84 ?_
      refine JJ_eqi (x2 := 0) (by decide) ?_
      have hznw := b2_0.mp c43
      have htB : TXS x Mb (zPut B (za B q p)) := by
        have := ht.keep (M' := Mb) (fun b k z1 z2 => hMb b k (by unfold VD; omega)) h6
        exact ⟨fun i hi => this.1 i (by rw [← zPut_o (A := B) (κ := za B q p) (b := 10) (k := 0) (by decide)]; exact hi), this.2⟩
      have hstB : STS x n S Pa Mb (zPut B (za B q p)) := STS_put (hst.keep (hMb _ _ (by unfold VD; omega)) (fun b k z => hMb b k (by unfold VD; omega)) (fun k => hPa _ _ (by unfold VP; omega)))
      refine JJ_callV (rest := []) (congrArg Prod.fst (hC.sh (t := 0) (k := 12) (m := 0) (by decide))) rfl rfl (IH (x + 49 + 3 * (m + 1)) (1 - p) 0 (zPut B (za B q p)) Mb L Pa hpq (by decide) hctB (Or.inr (by omega)) htB hstB (rn3_sa hg3 hp hq) hCa hX) (by omega) mi_X11_valueFor lk_X11_206 rfl (Nat.le_of_ble_eq_true rfl) rfl rfl dX11_valueBy_87 ?_
      intro v44 μ45 h46
      obtain ⟨r, Mc, Lc, Pc, rfl, rfl, hrv, -, hMc, hPc⟩ := h46
      refine JJ_r1 ?_
      refine JJ_ineg dX11_valueBy_90 ?_
      refine JJ_iret dX11_valueBy_91 rfl ?_
      exact ⟨_, Mc, Lc, Pc, rfl, rfl, by rw [e0, if_neg hznw]; exact vb_eq (Or.inr (Or.inr ⟨rfl, rfl⟩)) (zval_3 m _ (1 - p) hpq (rn3_sa hg3 hp hq).1) hrv, fun b k z => (hMc b k (fun y => z y.up)).trans (hMb b k z), fun b k z => (hPc b k (fun y => z y.up)).trans (hPa b k z)⟩
    · skip
      refine JJ_iconst (v := 1) dX11_valueBy_68 rfl ?_
      refine JJ_iret dX11_valueBy_69 rfl ?_
      exact ⟨_, Mb, L, Pa, rfl, rfl, Or.inl (by rw [e0, if_pos (b2_n.mp c43)]), hMb, hPa⟩
set_option maxHeartbeats 4000000 in
set_option maxRecDepth 100000 in
theorem kc_valueFor : ∀ m, m ≤ 5 → VF G sc n S x m := by
  intro m
  induction m with
  | zero =>
    intro _ c p e B M L P hp he hct hcc ht hst hg3 hC hX
    refine KK_of2 [(0, .ref x), (1, .ref c), (2, .int (nI p)), (3, .int 0), (4, .int e)] (by decide +kernel) (Nat.le_of_ble_eq_true rfl) rfl ?_
    refine JJ_bipush (v := (-2)) dX11_valueFor_0 rfl ?_
    refine JJ_istore (lv' := [(5, .int ((-2))), (0, .ref x), (1, .ref c), (2, .int (nI p)), (3, .int 0), (4, .int e)]) dX11_valueFor_2 (by decide) rfl ?_
    refine JJ_iconst (v := (-1)) dX11_valueFor_4 rfl ?_
    refine JJ_istore (lv' := [(6, .int ((-1))), (5, .int ((-2))), (0, .ref x), (1, .ref c), (2, .int (nI p)), (3, .int 0), (4, .int e)]) dX11_valueFor_5 (by decide) rfl ?_
    refine JJ_iconst (v := 0) dX11_valueFor_7 rfl ?_
    refine JJ_istore (lv' := [(7, .int 0), (6, .int ((-1))), (5, .int ((-2))), (0, .ref x), (1, .ref c), (2, .int (nI p)), (3, .int 0), (4, .int e)]) dX11_valueFor_8 (by decide) rfl ?_
    refine JJ_iload_n dX11_valueFor_10 rfl rfl ?_
    refine JJ_if_le (tgt := 68) dX11_valueFor_11 (by decide) (fun _ => ?_) (fun c1 => absurd (by decide) c1)
    refine JJ_aload_n dX11_valueFor_68 rfl rfl ?_
    refine JJ_iload dX11_valueFor_69 rfl ?_
    refine JJ_puti (cis := [11]) (k := 17) fa_X11_72 (by decide) (congrArg Prod.fst (hC.sh (t := 0) (k := 12) (m := 0) (by decide))) rfl (fun r hr => by cases hr; exact ⟨rfl, by decide +kernel⟩) dX11_valueFor_71 (fun M2 hM3 => ?_)
    refine JJ_iload dX11_valueFor_74 rfl ?_
    refine JJ_iconst (v := (-1)) dX11_valueFor_76 rfl ?_
    refine JJ_icmp_ne (tgt := 84) dX11_valueFor_77 (by decide) (fun c4 => absurd (by decide) c4) (fun _ => ?_)
    refine JJ_iconst (v := 0) dX11_valueFor_80 rfl ?_
    refine JJ_goto (tgt := 86) dX11_valueFor_81 (by decide) ?_
    refine JJ_iret dX11_valueFor_86 rfl ?_
    exact ⟨_, M2, L, P, rfl, rfl, Or.inl rfl, fun _ => rd_s hM3, fun b k z => rd_n hM3 (fun y => z (by unfold VD; omega)) rfl, fun _ _ _ => rfl⟩
  | succ m ih =>
    intro hm5 c p e B M L P hp he hct hcc ht hst hg3 hC hX
    have hg := hg3.1
    obtain ⟨cn, hc6, hcA, hcZ⟩ := cnt_e hg
    have h6 := (rul_lt hg).2
    have hat := hct.1.at
    have IH := ih (by omega)
    have hz0 : cn = 0 → zval (m + 1) B p = (0, -1) := fun z => zval_0 (by rw [hcA, z]; rfl)
    have hz1 : ¬ cn = 0 → zval (m + 1) B p = zbest (zf m B p) cn 0 (-2) (-1) := fun z => by
      rw [← hcZ]
      exact zval_s (fun y => z (nI_inj (b := 0) (by omega) (by omega) (hcA.symm.trans y)))
    refine KK_of2 [(0, .ref x), (1, .ref c), (2, .int (nI p)), (3, .int (nI (m + 1))), (4, .int e)] (by decide +kernel) (Nat.le_of_ble_eq_true rfl) rfl ?_
    refine JJ_bipush (v := (-2)) dX11_valueFor_0 rfl ?_
    refine JJ_istore (lv' := [(5, .int ((-2))), (0, .ref x), (1, .ref c), (2, .int (nI p)), (3, .int (nI (m + 1))), (4, .int e)]) dX11_valueFor_2 (by decide) rfl ?_
    refine JJ_iconst (v := (-1)) dX11_valueFor_4 rfl ?_
    refine JJ_istore (lv' := [(6, .int ((-1))), (5, .int ((-2))), (0, .ref x), (1, .ref c), (2, .int (nI p)), (3, .int (nI (m + 1))), (4, .int e)]) dX11_valueFor_5 (by decide) rfl ?_
    refine JJ_iconst (v := 0) dX11_valueFor_7 rfl ?_
    refine JJ_istore (lv' := [(7, .int 0), (6, .int ((-1))), (5, .int ((-2))), (0, .ref x), (1, .ref c), (2, .int (nI p)), (3, .int (nI (m + 1))), (4, .int e)]) dX11_valueFor_8 (by decide) rfl ?_
    have key : ∀ (d i : Nat) (mo fi : Int32) (Mx : Nat → Nat → Int32) (Lx : Nat → Nat → Int64) (Px : Nat → Nat → Option Nat), i + d = cn → zbest (zf m B p) d i mo fi = zbest (zf m B p) cn 0 (-2) (-1) → ((i = 0 ∧ mo = -2 ∧ fi = -1) ∨ (0 < i ∧ m3 mo ∧ ∃ j, j < 6 ∧ fi = nI j)) → (∀ b k, ¬ VD x (m + 1) b k → Mx b k = M b k) → (∀ b k, ¬ VP x (m + 1) b k → Px b k = P b k) → JJ G sc yX11_valueFor cX11_valueFor 9 (some .int) (9 + 2 * (m + 1)) 0 0 (fun v μ => ∃ r M' L' P', v = some (.int r) ∧ μ = (n, S, M', L', P') ∧ (r = (zval (m + 1) B p).1 ∨ (e ≤ r ∧ r ≤ (zval (m + 1) B p).1)) ∧ (e = 1 → M' x 17 = (zval (m + 1) B p).2) ∧ (∀ b k, ¬ VD x (m + 1) b k → M' b k = M b k) ∧ ∀ b k, ¬ VP x (m + 1) b k → P' b k = P b k) 10 [(7, .int (nI i)), (6, .int fi), (5, .int mo), (0, .ref x), (1, .ref c), (2, .int (nI p)), (3, .int (nI (m + 1))), (4, .int e)] [] (n, S, Mx, Lx, Px) := by
      intro d
      induction d with
      | zero =>
        intro i mo fi Mx Lx Px hid hzb hinv hMx hPx
        have hCx : CWF x S Px := hC.keep (fun b k z1 z2 z => hPx b k (fun y => z (by unfold VP at y; unfold CQP; omega)))
        have hctx : CTA x c Px Mx B := hct.keep (fun k => ⟨hMx _ _ (by unfold VD; omega), hMx _ _ (by unfold VD; omega), hMx _ _ (by unfold VD; omega)⟩) (hPx _ _ (by unfold VP; omega))
        have htx : TXS x Mx B := ht.keep (fun b k z1 z2 => hMx b k (by unfold VD; omega)) h6
        have hstx : STS x n S Px Mx B := hst.keep (hMx _ _ (by unfold VD; omega)) (fun b k z => hMx b k (by unfold VD; omega)) (fun k => hPx _ _ (by unfold VP; omega))
        refine JJ_iload_n dX11_valueFor_10 rfl rfl ?_
        refine JJ_if_le (tgt := 68) dX11_valueFor_11 (by decide) (fun c5 => absurd c5 (fun e => absurd (nI_leI (a := m + 1) (b := 0) (by omega) (by omega) |>.mp e) (by omega))) (fun _ => ?_)
        refine JJ_iload dX11_valueFor_14 rfl ?_
        refine JJ_aload_n dX11_valueFor_16 rfl rfl ?_
        refine JJ_geti (v := nI cn) (cis := [11]) (k := 4) fa_X11_32 (by decide) (congrArg Prod.fst (hCx.sh (t := 0) (k := 12) (m := 0) (by decide))) rfl (hX.1 _ _ (by omega) (by omega) (by omega)) (hstx.1.trans hcA) dX11_valueFor_17 ?_
        refine JJ_icmp_ge (tgt := 68) dX11_valueFor_20 (by decide) (fun _ => ?_) (fun c6 => absurd (nI_le (by omega) (by omega)) c6)
        refine JJ_aload_n dX11_valueFor_68 rfl rfl ?_
        refine JJ_iload dX11_valueFor_69 rfl ?_
        refine JJ_puti (cis := [11]) (k := 17) fa_X11_72 (by decide) (congrArg Prod.fst (hCx.sh (t := 0) (k := 12) (m := 0) (by decide))) rfl (fun r hr => by cases hr; exact ⟨rfl, by decide +kernel⟩) dX11_valueFor_71 (fun M7 hM8 => ?_)
        refine JJ_iload dX11_valueFor_74 rfl ?_
        refine JJ_iconst (v := (-1)) dX11_valueFor_76 rfl ?_
        refine JJ_icmp_ne (tgt := 84) dX11_valueFor_77 (by decide) (fun c9 => ?_) (fun c9 => ?_)
        · skip
          refine JJ_iload dX11_valueFor_84 rfl ?_
          refine JJ_iret dX11_valueFor_86 rfl ?_
          have hi0 : ¬ cn = 0 := by
            rcases hinv with ⟨y1, -, y3⟩ | ⟨y1, -, -⟩
            · exact absurd y3 c9
            · omega
          have hzz : (mo, fi) = zval (m + 1) B p := (hz1 hi0 ▸ hzb : _)
          exact ⟨_, M7, Lx, Px, rfl, rfl, Or.inl (by rw [← hzz]), fun _ => (rd_s hM8).trans (by rw [← hzz]), fun b k z => rd_n hM8 (fun y => z (by unfold VD; omega)) (hMx b k z), hPx⟩
        · skip
          refine JJ_iconst (v := 0) dX11_valueFor_80 rfl ?_
          refine JJ_goto (tgt := 86) dX11_valueFor_81 (by decide) ?_
          refine JJ_iret dX11_valueFor_86 rfl ?_
          have hi0 : cn = 0 := by
            rcases hinv with ⟨y1, -, -⟩ | ⟨-, -, j, hj, y3⟩
            · omega
            · exact absurd (c9.symm.trans y3) (fun y => by rw [i_eq, nI_toInt (by omega)] at y; rw [show (-1 : Int32).toInt = -1 from rfl] at y; omega)
          exact ⟨_, M7, Lx, Px, rfl, rfl, Or.inl (by rw [hz0 hi0]), fun _ => (rd_s hM8).trans (by rw [hz0 hi0]; exact c9), fun b k z => rd_n hM8 (fun y => z (by unfold VD; omega)) (hMx b k z), hPx⟩
      | succ d ihd =>
        intro i mo fi Mx Lx Px hid hzb hinv hMx hPx
        have hCx : CWF x S Px := hC.keep (fun b k z1 z2 z => hPx b k (fun y => z (by unfold VP at y; unfold CQP; omega)))
        have hctx : CTA x c Px Mx B := hct.keep (fun k => ⟨hMx _ _ (by unfold VD; omega), hMx _ _ (by unfold VD; omega), hMx _ _ (by unfold VD; omega)⟩) (hPx _ _ (by unfold VP; omega))
        have htx : TXS x Mx B := ht.keep (fun b k z1 z2 => hMx b k (by unfold VD; omega)) h6
        have hstx : STS x n S Px Mx B := hst.keep (hMx _ _ (by unfold VD; omega)) (fun b k z => hMx b k (by unfold VD; omega)) (fun k => hPx _ _ (by unfold VP; omega))
        have hq : i < zcnt B := by omega
        obtain ⟨a, ha, ha1, ha2, hsk⟩ := hstx.at hq
        have hi0 : ¬ cn = 0 := by omega
        refine JJ_iload_n dX11_valueFor_10 rfl rfl ?_
        refine JJ_if_le (tgt := 68) dX11_valueFor_11 (by decide) (fun c10 => absurd c10 (fun e => absurd (nI_leI (a := m + 1) (b := 0) (by omega) (by omega) |>.mp e) (by omega))) (fun _ => ?_)
        refine JJ_iload dX11_valueFor_14 rfl ?_
        refine JJ_aload_n dX11_valueFor_16 rfl rfl ?_
        refine JJ_geti (v := nI cn) (cis := [11]) (k := 4) fa_X11_32 (by decide) (congrArg Prod.fst (hCx.sh (t := 0) (k := 12) (m := 0) (by decide))) rfl (hX.1 _ _ (by omega) (by omega) (by omega)) (hstx.1.trans hcA) dX11_valueFor_17 ?_
        refine JJ_icmp_ge (tgt := 68) dX11_valueFor_20 (by decide) (fun c11 => absurd c11 (nI_ge (by omega) (by omega))) (fun _ => ?_)
        refine JJ_iload dX11_valueFor_23 rfl ?_
        refine JJ_iload dX11_valueFor_25 rfl ?_
        refine JJ_icmp_ge (tgt := 68) dX11_valueFor_27 (by decide) (fun c12 => ?_) (fun c12 => ?_)
        · skip
          have hfi : ¬ fi = -1 := by
            rcases hinv with ⟨-, y2, -⟩ | ⟨-, -, j, hj, y3⟩
            · rw [y2] at c12; rcases he with rfl | rfl <;> exact absurd c12 (by decide)
            · rw [y3]; exact fun y => by rw [i_eq, nI_toInt (by omega)] at y; rw [show (-1 : Int32).toInt = -1 from rfl] at y; omega
          refine JJ_aload_n dX11_valueFor_68 rfl rfl ?_
          refine JJ_iload dX11_valueFor_69 rfl ?_
          refine JJ_puti (cis := [11]) (k := 17) fa_X11_72 (by decide) (congrArg Prod.fst (hCx.sh (t := 0) (k := 12) (m := 0) (by decide))) rfl (fun r hr => by cases hr; exact ⟨rfl, by decide +kernel⟩) dX11_valueFor_71 (fun M13 hM14 => ?_)
          refine JJ_iload dX11_valueFor_74 rfl ?_
          refine JJ_iconst (v := (-1)) dX11_valueFor_76 rfl ?_
          refine JJ_icmp_ne (tgt := 84) dX11_valueFor_77 (by decide) (fun _ => ?_) (fun c15 => absurd c15 hfi)
          refine JJ_iload dX11_valueFor_84 rfl ?_
          refine JJ_iret dX11_valueFor_86 rfl ?_
          have hge := zbest_ge (f := zf m B p) (d + 1) i mo fi
          rw [hzb, ← hz1 hi0] at hge
          exact ⟨_, M13, Lx, Px, rfl, rfl, Or.inr ⟨c12, hge⟩, fun he1 => (rd_s hM14).trans (by rw [hz1 hi0, ← hzb, zbest_x (Int32.not_lt.mpr (by rw [← he1]; exact c12))]), fun b k z => rd_n hM14 (fun y => z (by unfold VD; omega)) (hMx b k z), hPx⟩
        · skip
          refine JJ_aload_n dX11_valueFor_30 rfl rfl ?_
          refine JJ_aload_n dX11_valueFor_31 rfl rfl ?_
          refine JJ_iload_n dX11_valueFor_32 rfl rfl ?_
          refine JJ_aload_n dX11_valueFor_33 rfl rfl ?_
          refine JJ_iload dX11_valueFor_34 rfl ?_
          refine JJ_callV (rest := [.int (nI p), .ref c, .ref x]) (congrArg Prod.fst (hCx.sh (t := 0) (k := 12) (m := 0) (by decide))) rfl rfl (kc_strokeAt hq ha hstx hg hCx hX) (by omega) mi_X11_strokeAt lk_X11_129 rfl (Nat.le_of_ble_eq_true rfl) rfl rfl dX11_valueFor_36 ?_
          intro v16 μ17 h18
          obtain ⟨rfl, rfl⟩ := h18
          refine JJ_r1 ?_
          refine JJ_iload_n dX11_valueFor_39 rfl rfl ?_
          refine JJ_iload dX11_valueFor_40 rfl ?_
          have hme : mo < e := Int32.not_le.mp c12
          have hm : mo = -2 ∨ mo = -1 ∨ mo = 0 := by
            rcases hinv with ⟨-, y2, -⟩ | ⟨-, y2 | y2 | y2, -⟩
            · exact Or.inl y2
            · exact Or.inr (Or.inl y2)
            · exact Or.inr (Or.inr y2)
            · rw [y2] at hme; rcases he with rfl | rfl <;> exact absurd hme (by decide)
          refine JJ_callV (rest := []) (congrArg Prod.fst (hCx.sh (t := 0) (k := 12) (m := 0) (by decide))) rfl rfl (kc_valueBy (q := i) IH hm5 hp hq hsk ha1 hm hctx hcc htx hstx hg3 hCx hX) (by omega) mi_X11_valueBy lk_X11_327 rfl (Nat.le_of_ble_eq_true rfl) rfl rfl dX11_valueFor_42 ?_
          intro v19 μ20 h21
          obtain ⟨r, My, Ly, Py, rfl, rfl, hrv, hMy, hPy⟩ := h21
          refine JJ_r1 ?_
          refine JJ_istore (lv' := [(8, .int r), (7, .int (nI i)), (6, .int fi), (5, .int mo), (0, .ref x), (1, .ref c), (2, .int (nI p)), (3, .int (nI (m + 1))), (4, .int e)]) dX11_valueFor_45 (by decide) rfl ?_
          refine JJ_iload dX11_valueFor_47 rfl ?_
          refine JJ_iload dX11_valueFor_49 rfl ?_
          refine JJ_icmp_le (tgt := 62) dX11_valueFor_51 (by decide) (fun c22 => ?_) (fun c22 => ?_)
          · skip
            refine JJ_iinc (v := nI (i + 1)) (lv' := [(7, .int (nI (i + 1))), (8, .int r), (6, .int fi), (5, .int mo), (0, .ref x), (1, .ref c), (2, .int (nI p)), (3, .int (nI (m + 1))), (4, .int e)]) dX11_valueFor_62 rfl (nI_add (i) 1) (by decide) rfl ?_
            refine JJ_goto (tgt := 10) dX11_valueFor_65 (by decide) ?_
            refine JJ.pick [0, 2, 3, 4, 5, 6, 7, 8] rfl ?_
            have hm1 : mo < 1 := by rcases hm with rfl | rfl | rfl <;> decide
            have hle : zf m B p i ≤ mo := hrv.elim (fun y => y ▸ c22) (fun y => y.2)
            refine ihd (i + 1) mo fi My Ly Py (by omega) ((zbest_0 hm1 (Int32.not_lt.mpr hle)).symm.trans hzb) ?_ (fun b k z => (hMy b k z).trans (hMx b k z)) (fun b k z => (hPy b k z).trans (hPx b k z))
            rcases hinv with ⟨y1, y2, -⟩ | ⟨y1, y2, y3⟩
            · exact absurd hle (by rw [y2]; rcases zf_3 (m := m) hg hp hq with y | y | y <;> (rw [y]; decide))
            · exact Or.inr ⟨by omega, y2, y3⟩
          · skip
            refine JJ_iload dX11_valueFor_54 rfl ?_
            refine JJ_istore (lv' := [(5, .int r), (8, .int r), (7, .int (nI i)), (6, .int fi), (0, .ref x), (1, .ref c), (2, .int (nI p)), (3, .int (nI (m + 1))), (4, .int e)]) dX11_valueFor_56 (by decide) rfl ?_
            refine JJ_iload dX11_valueFor_58 rfl ?_
            refine JJ_istore (lv' := [(6, .int (nI i)), (5, .int r), (8, .int r), (7, .int (nI i)), (0, .ref x), (1, .ref c), (2, .int (nI p)), (3, .int (nI (m + 1))), (4, .int e)]) dX11_valueFor_60 (by decide) rfl ?_
            refine JJ_iinc (v := nI (i + 1)) (lv' := [(7, .int (nI (i + 1))), (6, .int (nI i)), (5, .int r), (8, .int r), (0, .ref x), (1, .ref c), (2, .int (nI p)), (3, .int (nI (m + 1))), (4, .int e)]) dX11_valueFor_62 rfl (nI_add (i) 1) (by decide) rfl ?_
            refine JJ_goto (tgt := 10) dX11_valueFor_65 (by decide) ?_
            refine JJ.pick [0, 1, 2, 4, 5, 6, 7, 8] rfl ?_
            have hm1 : mo < 1 := by rcases hm with rfl | rfl | rfl <;> decide
            have hlt : mo < r := Int32.not_le.mp c22
            have hr : r = zf m B p i := hrv.elim (fun y => y) (fun y => absurd hlt (Int32.not_lt.mpr y.1))
            exact ihd (i + 1) r (nI i) My Ly Py (by omega) (by rw [hr]; exact (zbest_1 hm1 (hr ▸ hlt)).symm.trans hzb) (Or.inr ⟨by omega, by rw [hr]; exact zf_3 hg hp hq, i, by omega, rfl⟩) (fun b k z => (hMy b k z).trans (hMx b k z)) (fun b k z => (hPy b k z).trans (hPx b k z))
    refine JJ.pick [0, 1, 2, 3, 4, 5, 6, 7] rfl ?_
    exact key cn 0 (-2) (-1) M L P (by omega) rfl (Or.inl ⟨rfl, rfl, rfl⟩) (fun _ _ _ => rfl) (fun _ _ _ => rfl)
end C14
