/-! ===== the reference's constructor ===== -/
section GNR
variable {S S1 : Nat → Nat × Nat} {n b : Nat} {κ w : Nat × Nat}
theorem gS_s (h : S1 = upS S n κ) : S1 n = κ := by rw [h]; exact if_pos rfl
theorem gS_n (h : S1 = upS S n κ) (hb : b ≠ n) (e : S b = w) : S1 b = w := by rw [h]; exact (if_neg hb).trans e
variable {α : Type} {M M1 : Nat → Nat → α} {v x : α} {k : Nat}
theorem gR_s (h : M1 = upR M n v) : M1 n k = v := by rw [h]; exact if_pos rfl
theorem gR_n (h : M1 = upR M n v) (hb : b ≠ n) (e : M b k = x) : M1 b k = x := by rw [h]; exact (if_neg hb).trans e
end GNR
section JGN
variable {G : Gx} {sc : Nat → Nat → Prop} {y : MethodName} {cc : ByteArray} {nL : Nat} {ret : Option FieldType} {d kc ks : Nat} {Φ : Option Value → Mem → Prop} {pc : Nat} {lv : List (Nat × Value)} {st : List Value}
variable {n n1 a : Nat} {κ : Nat × Nat} {S : Nat → Nat × Nat} {M : Nat → Nat → Int32} {L : Nat → Nat → Int64} {P : Nat → Nat → Option Nat}
/-- a new cell, named -/
theorem JJ_gn (hn : n + 1 = n1) (k : ∀ S1 M1 L1 P1, S1 = upS S n κ → M1 = upR M n 0 → L1 = upR L n 0 → P1 = upR P n none → JJ G sc y cc nL ret d kc ks Φ pc lv st (n1, S1, M1, L1, P1)) : JJ G sc y cc nL ret d kc ks Φ pc lv st (n + 1, upS S n κ, upR M n 0, upR L n 0, upR P n none) := hn ▸ k _ _ _ _ rfl rfl rfl rfl
end JGN
section RINI
variable {G : Gx} {sc : Nat → Nat → Prop} {n : Nat} {S : Nat → Nat × Nat} {M : Nat → Nat → Int32} {L : Nat → Nat → Int64} {P : Nat → Nat → Option Nat} {o : Nat}

set_option maxHeartbeats 4000000 in
set_option maxRecDepth 100000 in
theorem kr_spell {at1 : Nat} {v0 v1 v2 v3 v4 v5 v6 v7 : Int32} (hat : at1 + 8 ≤ 960) (hR : RWF o S P) : KK G sc yX12_spell cX12_spell 10 none 0 0 0 [.ref o, .int (nI at1), .int v0, .int v1, .int v2, .int v3, .int v4, .int v5, .int v6, .int v7] (n, S, M, L, P) (fun v μ => v = none ∧ ∃ M', μ = (n, S, M', L, P) ∧ (∀ x, x < 8 → M' (o + 1) (at1 + x) = l8 v0 v1 v2 v3 v4 v5 v6 v7 x) ∧ ∀ b k, ¬ (b = o + 1 ∧ at1 ≤ k ∧ k < at1 + 8) → M' b k = M b k) := by
  refine KK_of2 [(0, .ref o), (1, .int (nI at1)), (2, .int v0), (3, .int v1), (4, .int v2), (5, .int v3), (6, .int v4), (7, .int v5), (8, .int v6), (9, .int v7)] (by decide +kernel) (Nat.le_of_ble_eq_true rfl) rfl ?_
  refine JJ_aload_n dX12_spell_0 rfl rfl ?_
  refine JJ_getr (q := o + 1) (cis := [12]) (k := 1) fa_X12_13 (by decide) hR.1 rfl (hR.2 (1, 1, 20, 960) (by decide)).1 dX12_spell_1 ?_
  refine JJ_iload_n dX12_spell_4 rfl rfl ?_
  refine JJ_iload_n dX12_spell_5 rfl rfl ?_
  refine JJ_iastX (hR.2 (1, 1, 20, 960) (by decide)).2 (IX_nI (by omega) (by omega)) dX12_spell_6 (fun M1 hM2 => ?_)
  refine JJ_aload_n dX12_spell_7 rfl rfl ?_
  refine JJ_getr (q := o + 1) (cis := [12]) (k := 1) fa_X12_13 (by decide) hR.1 rfl (hR.2 (1, 1, 20, 960) (by decide)).1 dX12_spell_8 ?_
  refine JJ_iload_n dX12_spell_11 rfl rfl ?_
  refine JJ_iconst (v := 1) dX12_spell_12 rfl ?_
  refine JJ_iadd dX12_spell_13 ?_
  refine JJ_eqi (x2 := nI (at1 + 1)) (nI_add (at1) (1)) ?_
  refine JJ_iload_n dX12_spell_14 rfl rfl ?_
  refine JJ_iastX (hR.2 (1, 1, 20, 960) (by decide)).2 (IX_nI (by omega) (by omega)) dX12_spell_15 (fun M3 hM4 => ?_)
  refine JJ_aload_n dX12_spell_16 rfl rfl ?_
  refine JJ_getr (q := o + 1) (cis := [12]) (k := 1) fa_X12_13 (by decide) hR.1 rfl (hR.2 (1, 1, 20, 960) (by decide)).1 dX12_spell_17 ?_
  refine JJ_iload_n dX12_spell_20 rfl rfl ?_
  refine JJ_iconst (v := 2) dX12_spell_21 rfl ?_
  refine JJ_iadd dX12_spell_22 ?_
  refine JJ_eqi (x2 := nI (at1 + 2)) (nI_add (at1) (2)) ?_
  refine JJ_iload dX12_spell_23 rfl ?_
  refine JJ_iastX (hR.2 (1, 1, 20, 960) (by decide)).2 (IX_nI (by omega) (by omega)) dX12_spell_25 (fun M5 hM6 => ?_)
  refine JJ_aload_n dX12_spell_26 rfl rfl ?_
  refine JJ_getr (q := o + 1) (cis := [12]) (k := 1) fa_X12_13 (by decide) hR.1 rfl (hR.2 (1, 1, 20, 960) (by decide)).1 dX12_spell_27 ?_
  refine JJ_iload_n dX12_spell_30 rfl rfl ?_
  refine JJ_iconst (v := 3) dX12_spell_31 rfl ?_
  refine JJ_iadd dX12_spell_32 ?_
  refine JJ_eqi (x2 := nI (at1 + 3)) (nI_add (at1) (3)) ?_
  refine JJ_iload dX12_spell_33 rfl ?_
  refine JJ_iastX (hR.2 (1, 1, 20, 960) (by decide)).2 (IX_nI (by omega) (by omega)) dX12_spell_35 (fun M7 hM8 => ?_)
  refine JJ_aload_n dX12_spell_36 rfl rfl ?_
  refine JJ_getr (q := o + 1) (cis := [12]) (k := 1) fa_X12_13 (by decide) hR.1 rfl (hR.2 (1, 1, 20, 960) (by decide)).1 dX12_spell_37 ?_
  refine JJ_iload_n dX12_spell_40 rfl rfl ?_
  refine JJ_iconst (v := 4) dX12_spell_41 rfl ?_
  refine JJ_iadd dX12_spell_42 ?_
  refine JJ_eqi (x2 := nI (at1 + 4)) (nI_add (at1) (4)) ?_
  refine JJ_iload dX12_spell_43 rfl ?_
  refine JJ_iastX (hR.2 (1, 1, 20, 960) (by decide)).2 (IX_nI (by omega) (by omega)) dX12_spell_45 (fun M9 hM10 => ?_)
  refine JJ_aload_n dX12_spell_46 rfl rfl ?_
  refine JJ_getr (q := o + 1) (cis := [12]) (k := 1) fa_X12_13 (by decide) hR.1 rfl (hR.2 (1, 1, 20, 960) (by decide)).1 dX12_spell_47 ?_
  refine JJ_iload_n dX12_spell_50 rfl rfl ?_
  refine JJ_iconst (v := 5) dX12_spell_51 rfl ?_
  refine JJ_iadd dX12_spell_52 ?_
  refine JJ_eqi (x2 := nI (at1 + 5)) (nI_add (at1) (5)) ?_
  refine JJ_iload dX12_spell_53 rfl ?_
  refine JJ_iastX (hR.2 (1, 1, 20, 960) (by decide)).2 (IX_nI (by omega) (by omega)) dX12_spell_55 (fun M11 hM12 => ?_)
  refine JJ_aload_n dX12_spell_56 rfl rfl ?_
  refine JJ_getr (q := o + 1) (cis := [12]) (k := 1) fa_X12_13 (by decide) hR.1 rfl (hR.2 (1, 1, 20, 960) (by decide)).1 dX12_spell_57 ?_
  refine JJ_iload_n dX12_spell_60 rfl rfl ?_
  refine JJ_bipush (v := 6) dX12_spell_61 rfl ?_
  refine JJ_iadd dX12_spell_63 ?_
  refine JJ_eqi (x2 := nI (at1 + 6)) (nI_add (at1) (6)) ?_
  refine JJ_iload dX12_spell_64 rfl ?_
  refine JJ_iastX (hR.2 (1, 1, 20, 960) (by decide)).2 (IX_nI (by omega) (by omega)) dX12_spell_66 (fun M13 hM14 => ?_)
  refine JJ_aload_n dX12_spell_67 rfl rfl ?_
  refine JJ_getr (q := o + 1) (cis := [12]) (k := 1) fa_X12_13 (by decide) hR.1 rfl (hR.2 (1, 1, 20, 960) (by decide)).1 dX12_spell_68 ?_
  refine JJ_iload_n dX12_spell_71 rfl rfl ?_
  refine JJ_bipush (v := 7) dX12_spell_72 rfl ?_
  refine JJ_iadd dX12_spell_74 ?_
  refine JJ_eqi (x2 := nI (at1 + 7)) (nI_add (at1) (7)) ?_
  refine JJ_iload dX12_spell_75 rfl ?_
  refine JJ_iastX (hR.2 (1, 1, 20, 960) (by decide)).2 (IX_nI (by omega) (by omega)) dX12_spell_77 (fun M15 hM16 => ?_)
  refine JJ_vret dX12_spell_78 rfl ?_
  exact ⟨rfl, M15, rfl, fun x hx => (by
    match x, hx with
    | 0, _ => exact (rd_n hM16 (by omega) (rd_n hM14 (by omega) (rd_n hM12 (by omega) (rd_n hM10 (by omega) (rd_n hM8 (by omega) (rd_n hM6 (by omega) (rd_n hM4 (by omega) (rd_s hM2))))))))
    | 1, _ => exact (rd_n hM16 (by omega) (rd_n hM14 (by omega) (rd_n hM12 (by omega) (rd_n hM10 (by omega) (rd_n hM8 (by omega) (rd_n hM6 (by omega) (rd_s hM4)))))))
    | 2, _ => exact (rd_n hM16 (by omega) (rd_n hM14 (by omega) (rd_n hM12 (by omega) (rd_n hM10 (by omega) (rd_n hM8 (by omega) (rd_s hM6))))))
    | 3, _ => exact (rd_n hM16 (by omega) (rd_n hM14 (by omega) (rd_n hM12 (by omega) (rd_n hM10 (by omega) (rd_s hM8)))))
    | 4, _ => exact (rd_n hM16 (by omega) (rd_n hM14 (by omega) (rd_n hM12 (by omega) (rd_s hM10))))
    | 5, _ => exact (rd_n hM16 (by omega) (rd_n hM14 (by omega) (rd_s hM12)))
    | 6, _ => exact (rd_n hM16 (by omega) (rd_s hM14))
    | 7, _ => exact (rd_s hM16)), fun b k z => rd_n hM16 (by omega) (rd_n hM14 (by omega) (rd_n hM12 (by omega) (rd_n hM10 (by omega) (rd_n hM8 (by omega) (rd_n hM6 (by omega) (rd_n hM4 (by omega) (rd_n hM2 (by omega) (rfl))))))))⟩
def zT0 : Nat → Nat → Int32 := fun b k => if b = 0 ∧ k < 2 then 12 else if b = 1 ∧ k < 2 then 500 else if b = 2 ∧ k < 2 then 5 else if b = 3 ∧ k < 2 then 12 else if b = 10 ∧ k = 0 then 1 else if b = 15 ∧ k = 0 then -1 else 0
/-- the state at the start -/
noncomputable def zInit : Abs := (zT0, fun _ => zSay bRule 56)
theorem init_abs {Mz : Nat → Nat → Int32} (h4 : ∀ p, p < 2 → Mz (o + 4) p = 12) (h5 : ∀ p, p < 2 → Mz (o + 5) p = 500) (h6 : ∀ p, p < 2 → Mz (o + 6) p = 5) (h7 : ∀ p, p < 2 → Mz (o + 7) p = 12) (h1 : ∀ i, i < 56 → Mz (o + 1) i = bRule i) (h2 : Mz (o + 2) 0 = 56) (h3 : Mz o 3 = 1) (h44 : Mz o 44 = -1)
    (hz : ∀ t k, t < 19 → ¬ t = 1 → ¬ t = 2 → ¬ (4 ≤ t ∧ t ≤ 7) → ¬ (t = 0 ∧ (k = 3 ∨ k = 44)) → Mz (o + t) k = 0) : rABS o Mz zInit := by
  have hzo : ∀ k, ¬ k = 3 → ¬ k = 44 → Mz o k = 0 := fun k z1 z2 => hz 0 k (by decide) (by decide) (by decide) (by decide) (by omega)
  have e0 : ∀ b k, (zInit).1 b k = zT0 b k := fun _ _ => rfl
  have hT : ∀ b k, 4 ≤ b → ¬ b = 10 → ¬ (b = 15 ∧ k = 0) → zT0 b k = 0 := by
    intro b k z1 z2 z3
    unfold zT0
    rw [if_neg (by omega), if_neg (by omega), if_neg (by omega), if_neg (by omega), if_neg (by omega), if_neg (by omega)]
  refine rABS_mk (fun b k x i hl => ?_) (fun i hi => ?_) (fun i hi => ?_) (hzo 33 (by decide) (by decide))
  · rw [e0]
    unfold LOC at hl
    rcases hl with ⟨h1', h2', rfl, rfl⟩ | ⟨rfl, rfl, rfl, rfl⟩ | ⟨h1', h3', h2', rfl, rfl⟩ | ⟨rfl, rfl, rfl, rfl⟩ | ⟨rfl, rfl, rfl, rfl⟩ | ⟨rfl, rfl, rfl, rfl⟩ | ⟨rfl, rfl, rfl, rfl⟩ | ⟨rfl, h2', rfl, rfl⟩ | ⟨rfl, h2', rfl, rfl⟩ | ⟨rfl, h2', rfl, rfl⟩ | ⟨h1', h3', h2', hx, rfl⟩ | ⟨h1', h3', h2', rfl, rfl⟩
    · match b, h1' with
      | 0, _ => rw [h4 _ h2']; exact (if_pos ⟨rfl, h2'⟩).symm
      | 1, _ => rw [h5 _ h2']; exact ((if_neg (by omega)).trans (if_pos ⟨rfl, h2'⟩)).symm
      | 2, _ => rw [h6 _ h2']; exact ((if_neg (by omega)).trans ((if_neg (by omega)).trans (if_pos ⟨rfl, h2'⟩))).symm
      | 3, _ => rw [h7 _ h2']; exact ((if_neg (by omega)).trans ((if_neg (by omega)).trans ((if_neg (by omega)).trans (if_pos ⟨rfl, h2'⟩)))).symm
    · rw [hzo _ (by decide) (by decide)]; exact (hT _ _ (by decide) (by decide) (by decide)).symm
    · rw [show o + 3 + b = o + (3 + b) by omega, hz (3 + b) _ (by omega) (by omega) (by omega) (by omega) (by omega)]; exact (hT _ _ (by omega) (by omega) (by omega)).symm
    · rw [hzo _ (by decide) (by decide)]; exact (hT _ _ (by decide) (by decide) (by decide)).symm
    · rw [hzo _ (by decide) (by decide)]; exact (hT _ _ (by decide) (by decide) (by decide)).symm
    · rw [h3]; rfl
    · rw [hzo _ (by decide) (by decide)]; exact (hT _ _ (by decide) (by decide) (by decide)).symm
    · rw [hz 13 _ (by decide) (by decide) (by decide) (by decide) (by omega)]; exact (hT _ _ (by decide) (by decide) (by omega)).symm
    · rw [hz 14 _ (by decide) (by decide) (by decide) (by decide) (by omega)]; exact (hT _ _ (by decide) (by decide) (by omega)).symm
    · match k, h2' with
      | 0, _ => rw [h44]; rfl
      | 1, _ => rw [hzo _ (by decide) (by decide)]; rfl
      | 2, _ => rw [hzo _ (by decide) (by decide)]; rfl
    · rw [show x = o + (b - 1) by omega, hz (b - 1) _ (by omega) (by omega) (by omega) (by omega) (by omega)]; exact (hT _ _ (by omega) (by omega) (by omega)).symm
    · rw [hz 18 _ (by decide) (by decide) (by decide) (by decide) (by omega)]; exact (hT _ _ (by omega) (by omega) (by omega)).symm
  · rw [e0, show zT0 12 0 = 0 from rfl] at hi
    exact absurd hi (by rw [show i2n 0 = 0 from rfl]; omega)
  · rw [e0, show zT0 10 0 = 1 from rfl, show i2n 1 = 1 from rfl] at hi
    obtain rfl : i = 0 := by omega
    refine ⟨56, by decide, h2, TXT_cong (b := bRule) (fun j hj => ?_) ?_⟩
    · show bRule j = Mz (o + 1) (160 * 0 + j)
      rw [show 160 * 0 + j = j by omega, h1 j hj]
    · obtain ⟨cs, d0, d1, d2, hg⟩ := gRule_e
      show TXT bRule 56 (zSay bRule 56)
      unfold zSay
      rw [hg]
      exact TXT_say bRule_B hg
set_option maxHeartbeats 4000000 in
set_option maxRecDepth 100000 in
theorem kr_init (hs : S o = (13, 0)) (h0 : ∀ k, M o k = 0) : KK G sc yX12_init cX12_init 2 none 2 18 1444 [.ref o] (o + 1, S, M, L, P) (fun v μ => v = none ∧ ∃ S' M' L' P', μ = (o + 19, S', M', L', P') ∧ RWF o S' P' ∧ rABS o M' zInit ∧ ∀ b, b < o → S' b = S b ∧ P' b = P b ∧ ∀ k, M' b k = M b k) := by
  refine KK_of2 [(0, .ref o)] (by decide +kernel) (Nat.le_of_ble_eq_true rfl) rfl ?_
  refine JJ_aload_n dX12_init_0 rfl rfl ?_
  refine JJ_objInit lk_X12_7 tb_92 tb_93 (Nat.le_of_ble_eq_true rfl) dX12_init_1 ?_
  refine JJ_aload_n dX12_init_4 rfl rfl ?_
  refine JJ_sipush (v := 960) dX12_init_5 rfl ?_
  refine JJ_newa (atype := .int) (t := 0) (m := 960) (kc' := 17) (ks' := 484) (by decide) rfl tb_128 (by decide) rfl (by decide) rfl rfl dX12_init_8 ?_
  refine JJ_gn (n1 := o + 2) rfl (fun Sn1 Mn1 Ln1 Pn1 hSn1 hMn1 hLn1 hPn1 => ?_)
  refine JJ_putFr (ty := .array .int) (cis := [12]) (k := 1) fa_X12_13 (by decide) (congrArg Prod.fst (gS_n hSn1 (by omega) hs)) rfl (fun r hr => by cases hr; exact ⟨⟨rfl, rfl⟩, by decide +kernel⟩) rfl rfl rfl dX12_init_10 (fun P1 hP2 => ?_)
  refine JJ_aload_n dX12_init_13 rfl rfl ?_
  refine JJ_bipush (v := 6) dX12_init_14 rfl ?_
  refine JJ_newa (atype := .int) (t := 0) (m := 6) (kc' := 16) (ks' := 478) (by decide) rfl tb_128 (by decide) rfl (by decide) rfl rfl dX12_init_16 ?_
  refine JJ_gn (n1 := o + 3) rfl (fun Sn2 Mn2 Ln2 Pn2 hSn2 hMn2 hLn2 hPn2 => ?_)
  refine JJ_putFr (ty := .array .int) (cis := [12]) (k := 2) fa_X12_17 (by decide) (congrArg Prod.fst (gS_n hSn2 (by omega) (gS_n hSn1 (by omega) hs))) rfl (fun r hr => by cases hr; exact ⟨⟨rfl, rfl⟩, by decide +kernel⟩) rfl rfl rfl dX12_init_18 (fun P3 hP4 => ?_)
  refine JJ_aload_n dX12_init_21 rfl rfl ?_
  refine JJ_sipush (v := 160) dX12_init_22 rfl ?_
  refine JJ_newa (atype := .int) (t := 0) (m := 160) (kc' := 15) (ks' := 318) (by decide) rfl tb_128 (by decide) rfl (by decide) rfl rfl dX12_init_25 ?_
  refine JJ_gn (n1 := o + 4) rfl (fun Sn3 Mn3 Ln3 Pn3 hSn3 hMn3 hLn3 hPn3 => ?_)
  refine JJ_putFr (ty := .array .int) (cis := [12]) (k := 5) fa_X12_20 (by decide) (congrArg Prod.fst (gS_n hSn3 (by omega) (gS_n hSn2 (by omega) (gS_n hSn1 (by omega) hs)))) rfl (fun r hr => by cases hr; exact ⟨⟨rfl, rfl⟩, by decide +kernel⟩) rfl rfl rfl dX12_init_27 (fun P5 hP6 => ?_)
  refine JJ_aload_n dX12_init_30 rfl rfl ?_
  refine JJ_iconst (v := 2) dX12_init_31 rfl ?_
  refine JJ_newa (atype := .int) (t := 0) (m := 2) (kc' := 14) (ks' := 316) (by decide) rfl tb_128 (by decide) rfl (by decide) rfl rfl dX12_init_32 ?_
  refine JJ_gn (n1 := o + 5) rfl (fun Sn4 Mn4 Ln4 Pn4 hSn4 hMn4 hLn4 hPn4 => ?_)
  refine JJ_putFr (ty := .array .int) (cis := [12]) (k := 7) fa_X12_23 (by decide) (congrArg Prod.fst (gS_n hSn4 (by omega) (gS_n hSn3 (by omega) (gS_n hSn2 (by omega) (gS_n hSn1 (by omega) hs))))) rfl (fun r hr => by cases hr; exact ⟨⟨rfl, rfl⟩, by decide +kernel⟩) rfl rfl rfl dX12_init_34 (fun P7 hP8 => ?_)
  refine JJ_aload_n dX12_init_37 rfl rfl ?_
  refine JJ_iconst (v := 2) dX12_init_38 rfl ?_
  refine JJ_newa (atype := .int) (t := 0) (m := 2) (kc' := 13) (ks' := 314) (by decide) rfl tb_128 (by decide) rfl (by decide) rfl rfl dX12_init_39 ?_
  refine JJ_gn (n1 := o + 6) rfl (fun Sn5 Mn5 Ln5 Pn5 hSn5 hMn5 hLn5 hPn5 => ?_)
  refine JJ_putFr (ty := .array .int) (cis := [12]) (k := 8) fa_X12_26 (by decide) (congrArg Prod.fst (gS_n hSn5 (by omega) (gS_n hSn4 (by omega) (gS_n hSn3 (by omega) (gS_n hSn2 (by omega) (gS_n hSn1 (by omega) hs)))))) rfl (fun r hr => by cases hr; exact ⟨⟨rfl, rfl⟩, by decide +kernel⟩) rfl rfl rfl dX12_init_41 (fun P9 hP10 => ?_)
  refine JJ_aload_n dX12_init_44 rfl rfl ?_
  refine JJ_iconst (v := 2) dX12_init_45 rfl ?_
  refine JJ_newa (atype := .int) (t := 0) (m := 2) (kc' := 12) (ks' := 312) (by decide) rfl tb_128 (by decide) rfl (by decide) rfl rfl dX12_init_46 ?_
  refine JJ_gn (n1 := o + 7) rfl (fun Sn6 Mn6 Ln6 Pn6 hSn6 hMn6 hLn6 hPn6 => ?_)
  refine JJ_putFr (ty := .array .int) (cis := [12]) (k := 9) fa_X12_29 (by decide) (congrArg Prod.fst (gS_n hSn6 (by omega) (gS_n hSn5 (by omega) (gS_n hSn4 (by omega) (gS_n hSn3 (by omega) (gS_n hSn2 (by omega) (gS_n hSn1 (by omega) hs))))))) rfl (fun r hr => by cases hr; exact ⟨⟨rfl, rfl⟩, by decide +kernel⟩) rfl rfl rfl dX12_init_48 (fun P11 hP12 => ?_)
  refine JJ_aload_n dX12_init_51 rfl rfl ?_
  refine JJ_iconst (v := 2) dX12_init_52 rfl ?_
  refine JJ_newa (atype := .int) (t := 0) (m := 2) (kc' := 11) (ks' := 310) (by decide) rfl tb_128 (by decide) rfl (by decide) rfl rfl dX12_init_53 ?_
  refine JJ_gn (n1 := o + 8) rfl (fun Sn7 Mn7 Ln7 Pn7 hSn7 hMn7 hLn7 hPn7 => ?_)
  refine JJ_putFr (ty := .array .int) (cis := [12]) (k := 10) fa_X12_32 (by decide) (congrArg Prod.fst (gS_n hSn7 (by omega) (gS_n hSn6 (by omega) (gS_n hSn5 (by omega) (gS_n hSn4 (by omega) (gS_n hSn3 (by omega) (gS_n hSn2 (by omega) (gS_n hSn1 (by omega) hs)))))))) rfl (fun r hr => by cases hr; exact ⟨⟨rfl, rfl⟩, by decide +kernel⟩) rfl rfl rfl dX12_init_55 (fun P13 hP14 => ?_)
  refine JJ_aload_n dX12_init_58 rfl rfl ?_
  refine JJ_bipush (v := 6) dX12_init_59 rfl ?_
  refine JJ_newa (atype := .int) (t := 0) (m := 6) (kc' := 10) (ks' := 304) (by decide) rfl tb_128 (by decide) rfl (by decide) rfl rfl dX12_init_61 ?_
  refine JJ_gn (n1 := o + 9) rfl (fun Sn8 Mn8 Ln8 Pn8 hSn8 hMn8 hLn8 hPn8 => ?_)
  refine JJ_putFr (ty := .array .int) (cis := [12]) (k := 12) fa_X12_35 (by decide) (congrArg Prod.fst (gS_n hSn8 (by omega) (gS_n hSn7 (by omega) (gS_n hSn6 (by omega) (gS_n hSn5 (by omega) (gS_n hSn4 (by omega) (gS_n hSn3 (by omega) (gS_n hSn2 (by omega) (gS_n hSn1 (by omega) hs))))))))) rfl (fun r hr => by cases hr; exact ⟨⟨rfl, rfl⟩, by decide +kernel⟩) rfl rfl rfl dX12_init_63 (fun P15 hP16 => ?_)
  refine JJ_aload_n dX12_init_66 rfl rfl ?_
  refine JJ_bipush (v := 6) dX12_init_67 rfl ?_
  refine JJ_newa (atype := .int) (t := 0) (m := 6) (kc' := 9) (ks' := 298) (by decide) rfl tb_128 (by decide) rfl (by decide) rfl rfl dX12_init_69 ?_
  refine JJ_gn (n1 := o + 10) rfl (fun Sn9 Mn9 Ln9 Pn9 hSn9 hMn9 hLn9 hPn9 => ?_)
  refine JJ_putFr (ty := .array .int) (cis := [12]) (k := 13) fa_X12_38 (by decide) (congrArg Prod.fst (gS_n hSn9 (by omega) (gS_n hSn8 (by omega) (gS_n hSn7 (by omega) (gS_n hSn6 (by omega) (gS_n hSn5 (by omega) (gS_n hSn4 (by omega) (gS_n hSn3 (by omega) (gS_n hSn2 (by omega) (gS_n hSn1 (by omega) hs)))))))))) rfl (fun r hr => by cases hr; exact ⟨⟨rfl, rfl⟩, by decide +kernel⟩) rfl rfl rfl dX12_init_71 (fun P17 hP18 => ?_)
  refine JJ_aload_n dX12_init_74 rfl rfl ?_
  refine JJ_bipush (v := 6) dX12_init_75 rfl ?_
  refine JJ_newa (atype := .int) (t := 0) (m := 6) (kc' := 8) (ks' := 292) (by decide) rfl tb_128 (by decide) rfl (by decide) rfl rfl dX12_init_77 ?_
  refine JJ_gn (n1 := o + 11) rfl (fun Sn10 Mn10 Ln10 Pn10 hSn10 hMn10 hLn10 hPn10 => ?_)
  refine JJ_putFr (ty := .array .int) (cis := [12]) (k := 14) fa_X12_41 (by decide) (congrArg Prod.fst (gS_n hSn10 (by omega) (gS_n hSn9 (by omega) (gS_n hSn8 (by omega) (gS_n hSn7 (by omega) (gS_n hSn6 (by omega) (gS_n hSn5 (by omega) (gS_n hSn4 (by omega) (gS_n hSn3 (by omega) (gS_n hSn2 (by omega) (gS_n hSn1 (by omega) hs))))))))))) rfl (fun r hr => by cases hr; exact ⟨⟨rfl, rfl⟩, by decide +kernel⟩) rfl rfl rfl dX12_init_79 (fun P19 hP20 => ?_)
  refine JJ_aload_n dX12_init_82 rfl rfl ?_
  refine JJ_bipush (v := 60) dX12_init_83 rfl ?_
  refine JJ_newa (atype := .int) (t := 0) (m := 60) (kc' := 7) (ks' := 232) (by decide) rfl tb_128 (by decide) rfl (by decide) rfl rfl dX12_init_85 ?_
  refine JJ_gn (n1 := o + 12) rfl (fun Sn11 Mn11 Ln11 Pn11 hSn11 hMn11 hLn11 hPn11 => ?_)
  refine JJ_putFr (ty := .array .int) (cis := [12]) (k := 32) fa_X12_44 (by decide) (congrArg Prod.fst (gS_n hSn11 (by omega) (gS_n hSn10 (by omega) (gS_n hSn9 (by omega) (gS_n hSn8 (by omega) (gS_n hSn7 (by omega) (gS_n hSn6 (by omega) (gS_n hSn5 (by omega) (gS_n hSn4 (by omega) (gS_n hSn3 (by omega) (gS_n hSn2 (by omega) (gS_n hSn1 (by omega) hs)))))))))))) rfl (fun r hr => by cases hr; exact ⟨⟨rfl, rfl⟩, by decide +kernel⟩) rfl rfl rfl dX12_init_87 (fun P21 hP22 => ?_)
  refine JJ_aload_n dX12_init_90 rfl rfl ?_
  refine JJ_bipush (v := 40) dX12_init_91 rfl ?_
  refine JJ_newa (atype := .int) (t := 0) (m := 40) (kc' := 6) (ks' := 192) (by decide) rfl tb_128 (by decide) rfl (by decide) rfl rfl dX12_init_93 ?_
  refine JJ_gn (n1 := o + 13) rfl (fun Sn12 Mn12 Ln12 Pn12 hSn12 hMn12 hLn12 hPn12 => ?_)
  refine JJ_putFr (ty := .array .int) (cis := [12]) (k := 38) fa_X12_47 (by decide) (congrArg Prod.fst (gS_n hSn12 (by omega) (gS_n hSn11 (by omega) (gS_n hSn10 (by omega) (gS_n hSn9 (by omega) (gS_n hSn8 (by omega) (gS_n hSn7 (by omega) (gS_n hSn6 (by omega) (gS_n hSn5 (by omega) (gS_n hSn4 (by omega) (gS_n hSn3 (by omega) (gS_n hSn2 (by omega) (gS_n hSn1 (by omega) hs))))))))))))) rfl (fun r hr => by cases hr; exact ⟨⟨rfl, rfl⟩, by decide +kernel⟩) rfl rfl rfl dX12_init_95 (fun P23 hP24 => ?_)
  refine JJ_aload_n dX12_init_98 rfl rfl ?_
  refine JJ_bipush (v := 8) dX12_init_99 rfl ?_
  refine JJ_newa (atype := .int) (t := 0) (m := 8) (kc' := 5) (ks' := 184) (by decide) rfl tb_128 (by decide) rfl (by decide) rfl rfl dX12_init_101 ?_
  refine JJ_gn (n1 := o + 14) rfl (fun Sn13 Mn13 Ln13 Pn13 hSn13 hMn13 hLn13 hPn13 => ?_)
  refine JJ_putFr (ty := .array .int) (cis := [12]) (k := 42) fa_X12_50 (by decide) (congrArg Prod.fst (gS_n hSn13 (by omega) (gS_n hSn12 (by omega) (gS_n hSn11 (by omega) (gS_n hSn10 (by omega) (gS_n hSn9 (by omega) (gS_n hSn8 (by omega) (gS_n hSn7 (by omega) (gS_n hSn6 (by omega) (gS_n hSn5 (by omega) (gS_n hSn4 (by omega) (gS_n hSn3 (by omega) (gS_n hSn2 (by omega) (gS_n hSn1 (by omega) hs)))))))))))))) rfl (fun r hr => by cases hr; exact ⟨⟨rfl, rfl⟩, by decide +kernel⟩) rfl rfl rfl dX12_init_103 (fun P25 hP26 => ?_)
  refine JJ_aload_n dX12_init_106 rfl rfl ?_
  refine JJ_bipush (v := 12) dX12_init_107 rfl ?_
  refine JJ_newa (atype := .int) (t := 0) (m := 12) (kc' := 4) (ks' := 172) (by decide) rfl tb_128 (by decide) rfl (by decide) rfl rfl dX12_init_109 ?_
  refine JJ_gn (n1 := o + 15) rfl (fun Sn14 Mn14 Ln14 Pn14 hSn14 hMn14 hLn14 hPn14 => ?_)
  refine JJ_putFr (ty := .array .int) (cis := [12]) (k := 43) fa_X12_53 (by decide) (congrArg Prod.fst (gS_n hSn14 (by omega) (gS_n hSn13 (by omega) (gS_n hSn12 (by omega) (gS_n hSn11 (by omega) (gS_n hSn10 (by omega) (gS_n hSn9 (by omega) (gS_n hSn8 (by omega) (gS_n hSn7 (by omega) (gS_n hSn6 (by omega) (gS_n hSn5 (by omega) (gS_n hSn4 (by omega) (gS_n hSn3 (by omega) (gS_n hSn2 (by omega) (gS_n hSn1 (by omega) hs))))))))))))))) rfl (fun r hr => by cases hr; exact ⟨⟨rfl, rfl⟩, by decide +kernel⟩) rfl rfl rfl dX12_init_111 (fun P27 hP28 => ?_)
  refine JJ_aload_n dX12_init_114 rfl rfl ?_
  refine JJ_iconst (v := (-1)) dX12_init_115 rfl ?_
  refine JJ_puti (cis := [12]) (k := 44) fa_X12_56 (by decide) (congrArg Prod.fst (gS_n hSn14 (by omega) (gS_n hSn13 (by omega) (gS_n hSn12 (by omega) (gS_n hSn11 (by omega) (gS_n hSn10 (by omega) (gS_n hSn9 (by omega) (gS_n hSn8 (by omega) (gS_n hSn7 (by omega) (gS_n hSn6 (by omega) (gS_n hSn5 (by omega) (gS_n hSn4 (by omega) (gS_n hSn3 (by omega) (gS_n hSn2 (by omega) (gS_n hSn1 (by omega) hs))))))))))))))) rfl (fun r hr => by cases hr; exact ⟨rfl, by decide +kernel⟩) dX12_init_116 (fun M29 hM30 => ?_)
  refine JJ_aload_n dX12_init_119 rfl rfl ?_
  refine JJ_iconst (v := 4) dX12_init_120 rfl ?_
  refine JJ_newa (atype := .boolean) (t := 1) (m := 4) (kc' := 3) (ks' := 168) (by decide) rfl tb_1086 (by decide) rfl (by decide) rfl rfl dX12_init_121 ?_
  refine JJ_gn (n1 := o + 16) rfl (fun Sn15 Mn15 Ln15 Pn15 hSn15 hMn15 hLn15 hPn15 => ?_)
  refine JJ_putFr (ty := .array .boolean) (cis := [12]) (k := 47) fa_X12_59 (by decide) (congrArg Prod.fst (gS_n hSn15 (by omega) (gS_n hSn14 (by omega) (gS_n hSn13 (by omega) (gS_n hSn12 (by omega) (gS_n hSn11 (by omega) (gS_n hSn10 (by omega) (gS_n hSn9 (by omega) (gS_n hSn8 (by omega) (gS_n hSn7 (by omega) (gS_n hSn6 (by omega) (gS_n hSn5 (by omega) (gS_n hSn4 (by omega) (gS_n hSn3 (by omega) (gS_n hSn2 (by omega) (gS_n hSn1 (by omega) hs)))))))))))))))) rfl (fun r hr => by cases hr; exact ⟨⟨rfl, rfl⟩, by decide +kernel⟩) rfl rfl rfl dX12_init_123 (fun P31 hP32 => ?_)
  refine JJ_aload_n dX12_init_126 rfl rfl ?_
  refine JJ_iconst (v := 4) dX12_init_127 rfl ?_
  refine JJ_newa (atype := .int) (t := 0) (m := 4) (kc' := 2) (ks' := 164) (by decide) rfl tb_128 (by decide) rfl (by decide) rfl rfl dX12_init_128 ?_
  refine JJ_gn (n1 := o + 17) rfl (fun Sn16 Mn16 Ln16 Pn16 hSn16 hMn16 hLn16 hPn16 => ?_)
  refine JJ_putFr (ty := .array .int) (cis := [12]) (k := 48) fa_X12_63 (by decide) (congrArg Prod.fst (gS_n hSn16 (by omega) (gS_n hSn15 (by omega) (gS_n hSn14 (by omega) (gS_n hSn13 (by omega) (gS_n hSn12 (by omega) (gS_n hSn11 (by omega) (gS_n hSn10 (by omega) (gS_n hSn9 (by omega) (gS_n hSn8 (by omega) (gS_n hSn7 (by omega) (gS_n hSn6 (by omega) (gS_n hSn5 (by omega) (gS_n hSn4 (by omega) (gS_n hSn3 (by omega) (gS_n hSn2 (by omega) (gS_n hSn1 (by omega) hs))))))))))))))))) rfl (fun r hr => by cases hr; exact ⟨⟨rfl, rfl⟩, by decide +kernel⟩) rfl rfl rfl dX12_init_130 (fun P33 hP34 => ?_)
  refine JJ_aload_n dX12_init_133 rfl rfl ?_
  refine JJ_iconst (v := 4) dX12_init_134 rfl ?_
  refine JJ_newa (atype := .int) (t := 0) (m := 4) (kc' := 1) (ks' := 160) (by decide) rfl tb_128 (by decide) rfl (by decide) rfl rfl dX12_init_135 ?_
  refine JJ_gn (n1 := o + 18) rfl (fun Sn17 Mn17 Ln17 Pn17 hSn17 hMn17 hLn17 hPn17 => ?_)
  refine JJ_putFr (ty := .array .int) (cis := [12]) (k := 49) fa_X12_66 (by decide) (congrArg Prod.fst (gS_n hSn17 (by omega) (gS_n hSn16 (by omega) (gS_n hSn15 (by omega) (gS_n hSn14 (by omega) (gS_n hSn13 (by omega) (gS_n hSn12 (by omega) (gS_n hSn11 (by omega) (gS_n hSn10 (by omega) (gS_n hSn9 (by omega) (gS_n hSn8 (by omega) (gS_n hSn7 (by omega) (gS_n hSn6 (by omega) (gS_n hSn5 (by omega) (gS_n hSn4 (by omega) (gS_n hSn3 (by omega) (gS_n hSn2 (by omega) (gS_n hSn1 (by omega) hs)))))))))))))))))) rfl (fun r hr => by cases hr; exact ⟨⟨rfl, rfl⟩, by decide +kernel⟩) rfl rfl rfl dX12_init_137 (fun P35 hP36 => ?_)
  refine JJ_aload_n dX12_init_140 rfl rfl ?_
  refine JJ_sipush (v := 160) dX12_init_141 rfl ?_
  refine JJ_newa (atype := .int) (t := 0) (m := 160) (kc' := 0) (ks' := 0) (by decide) rfl tb_128 (by decide) rfl (by decide) rfl rfl dX12_init_144 ?_
  refine JJ_gn (n1 := o + 19) rfl (fun Sn18 Mn18 Ln18 Pn18 hSn18 hMn18 hLn18 hPn18 => ?_)
  refine JJ_putFr (ty := .array .int) (cis := [12]) (k := 50) fa_X12_69 (by decide) (congrArg Prod.fst (gS_n hSn18 (by omega) (gS_n hSn17 (by omega) (gS_n hSn16 (by omega) (gS_n hSn15 (by omega) (gS_n hSn14 (by omega) (gS_n hSn13 (by omega) (gS_n hSn12 (by omega) (gS_n hSn11 (by omega) (gS_n hSn10 (by omega) (gS_n hSn9 (by omega) (gS_n hSn8 (by omega) (gS_n hSn7 (by omega) (gS_n hSn6 (by omega) (gS_n hSn5 (by omega) (gS_n hSn4 (by omega) (gS_n hSn3 (by omega) (gS_n hSn2 (by omega) (gS_n hSn1 (by omega) hs))))))))))))))))))) rfl (fun r hr => by cases hr; exact ⟨⟨rfl, rfl⟩, by decide +kernel⟩) rfl rfl rfl dX12_init_146 (fun P37 hP38 => ?_)
  have hR : RWF o Sn18 P37 := by
    refine ⟨congrArg Prod.fst (gS_n hSn18 (by omega) (gS_n hSn17 (by omega) (gS_n hSn16 (by omega) (gS_n hSn15 (by omega) (gS_n hSn14 (by omega) (gS_n hSn13 (by omega) (gS_n hSn12 (by omega) (gS_n hSn11 (by omega) (gS_n hSn10 (by omega) (gS_n hSn9 (by omega) (gS_n hSn8 (by omega) (gS_n hSn7 (by omega) (gS_n hSn6 (by omega) (gS_n hSn5 (by omega) (gS_n hSn4 (by omega) (gS_n hSn3 (by omega) (gS_n hSn2 (by omega) (gS_n hSn1 (by omega) hs)))))))))))))))))), fun q hq => ?_⟩
    simp only [RLy, List.mem_cons, List.not_mem_nil, or_false] at hq
    rcases hq with rfl | rfl | rfl | rfl | rfl | rfl | rfl | rfl | rfl | rfl | rfl | rfl | rfl | rfl | rfl | rfl | rfl | rfl
    · exact (show P37 o 1 = some (o + 1) ∧ Sn18 (o + 1) = (20, 960) from ⟨(rd_n hP38 (by omega) (gR_n hPn18 (by omega) (rd_n hP36 (by omega) (gR_n hPn17 (by omega) (rd_n hP34 (by omega) (gR_n hPn16 (by omega) (rd_n hP32 (by omega) (gR_n hPn15 (by omega) (rd_n hP28 (by omega) (gR_n hPn14 (by omega) (rd_n hP26 (by omega) (gR_n hPn13 (by omega) (rd_n hP24 (by omega) (gR_n hPn12 (by omega) (rd_n hP22 (by omega) (gR_n hPn11 (by omega) (rd_n hP20 (by omega) (gR_n hPn10 (by omega) (rd_n hP18 (by omega) (gR_n hPn9 (by omega) (rd_n hP16 (by omega) (gR_n hPn8 (by omega) (rd_n hP14 (by omega) (gR_n hPn7 (by omega) (rd_n hP12 (by omega) (gR_n hPn6 (by omega) (rd_n hP10 (by omega) (gR_n hPn5 (by omega) (rd_n hP8 (by omega) (gR_n hPn4 (by omega) (rd_n hP6 (by omega) (gR_n hPn3 (by omega) (rd_n hP4 (by omega) (gR_n hPn2 (by omega) (rd_s hP2))))))))))))))))))))))))))))))))))), (gS_n hSn18 (by omega) (gS_n hSn17 (by omega) (gS_n hSn16 (by omega) (gS_n hSn15 (by omega) (gS_n hSn14 (by omega) (gS_n hSn13 (by omega) (gS_n hSn12 (by omega) (gS_n hSn11 (by omega) (gS_n hSn10 (by omega) (gS_n hSn9 (by omega) (gS_n hSn8 (by omega) (gS_n hSn7 (by omega) (gS_n hSn6 (by omega) (gS_n hSn5 (by omega) (gS_n hSn4 (by omega) (gS_n hSn3 (by omega) (gS_n hSn2 (by omega) (gS_s hSn1))))))))))))))))))⟩)
    · exact (show P37 o 2 = some (o + 2) ∧ Sn18 (o + 2) = (20, 6) from ⟨(rd_n hP38 (by omega) (gR_n hPn18 (by omega) (rd_n hP36 (by omega) (gR_n hPn17 (by omega) (rd_n hP34 (by omega) (gR_n hPn16 (by omega) (rd_n hP32 (by omega) (gR_n hPn15 (by omega) (rd_n hP28 (by omega) (gR_n hPn14 (by omega) (rd_n hP26 (by omega) (gR_n hPn13 (by omega) (rd_n hP24 (by omega) (gR_n hPn12 (by omega) (rd_n hP22 (by omega) (gR_n hPn11 (by omega) (rd_n hP20 (by omega) (gR_n hPn10 (by omega) (rd_n hP18 (by omega) (gR_n hPn9 (by omega) (rd_n hP16 (by omega) (gR_n hPn8 (by omega) (rd_n hP14 (by omega) (gR_n hPn7 (by omega) (rd_n hP12 (by omega) (gR_n hPn6 (by omega) (rd_n hP10 (by omega) (gR_n hPn5 (by omega) (rd_n hP8 (by omega) (gR_n hPn4 (by omega) (rd_n hP6 (by omega) (gR_n hPn3 (by omega) (rd_s hP4))))))))))))))))))))))))))))))))), (gS_n hSn18 (by omega) (gS_n hSn17 (by omega) (gS_n hSn16 (by omega) (gS_n hSn15 (by omega) (gS_n hSn14 (by omega) (gS_n hSn13 (by omega) (gS_n hSn12 (by omega) (gS_n hSn11 (by omega) (gS_n hSn10 (by omega) (gS_n hSn9 (by omega) (gS_n hSn8 (by omega) (gS_n hSn7 (by omega) (gS_n hSn6 (by omega) (gS_n hSn5 (by omega) (gS_n hSn4 (by omega) (gS_n hSn3 (by omega) (gS_s hSn2)))))))))))))))))⟩)
    · exact (show P37 o 5 = some (o + 3) ∧ Sn18 (o + 3) = (20, 160) from ⟨(rd_n hP38 (by omega) (gR_n hPn18 (by omega) (rd_n hP36 (by omega) (gR_n hPn17 (by omega) (rd_n hP34 (by omega) (gR_n hPn16 (by omega) (rd_n hP32 (by omega) (gR_n hPn15 (by omega) (rd_n hP28 (by omega) (gR_n hPn14 (by omega) (rd_n hP26 (by omega) (gR_n hPn13 (by omega) (rd_n hP24 (by omega) (gR_n hPn12 (by omega) (rd_n hP22 (by omega) (gR_n hPn11 (by omega) (rd_n hP20 (by omega) (gR_n hPn10 (by omega) (rd_n hP18 (by omega) (gR_n hPn9 (by omega) (rd_n hP16 (by omega) (gR_n hPn8 (by omega) (rd_n hP14 (by omega) (gR_n hPn7 (by omega) (rd_n hP12 (by omega) (gR_n hPn6 (by omega) (rd_n hP10 (by omega) (gR_n hPn5 (by omega) (rd_n hP8 (by omega) (gR_n hPn4 (by omega) (rd_s hP6))))))))))))))))))))))))))))))), (gS_n hSn18 (by omega) (gS_n hSn17 (by omega) (gS_n hSn16 (by omega) (gS_n hSn15 (by omega) (gS_n hSn14 (by omega) (gS_n hSn13 (by omega) (gS_n hSn12 (by omega) (gS_n hSn11 (by omega) (gS_n hSn10 (by omega) (gS_n hSn9 (by omega) (gS_n hSn8 (by omega) (gS_n hSn7 (by omega) (gS_n hSn6 (by omega) (gS_n hSn5 (by omega) (gS_n hSn4 (by omega) (gS_s hSn3))))))))))))))))⟩)
    · exact (show P37 o 7 = some (o + 4) ∧ Sn18 (o + 4) = (20, 2) from ⟨(rd_n hP38 (by omega) (gR_n hPn18 (by omega) (rd_n hP36 (by omega) (gR_n hPn17 (by omega) (rd_n hP34 (by omega) (gR_n hPn16 (by omega) (rd_n hP32 (by omega) (gR_n hPn15 (by omega) (rd_n hP28 (by omega) (gR_n hPn14 (by omega) (rd_n hP26 (by omega) (gR_n hPn13 (by omega) (rd_n hP24 (by omega) (gR_n hPn12 (by omega) (rd_n hP22 (by omega) (gR_n hPn11 (by omega) (rd_n hP20 (by omega) (gR_n hPn10 (by omega) (rd_n hP18 (by omega) (gR_n hPn9 (by omega) (rd_n hP16 (by omega) (gR_n hPn8 (by omega) (rd_n hP14 (by omega) (gR_n hPn7 (by omega) (rd_n hP12 (by omega) (gR_n hPn6 (by omega) (rd_n hP10 (by omega) (gR_n hPn5 (by omega) (rd_s hP8))))))))))))))))))))))))))))), (gS_n hSn18 (by omega) (gS_n hSn17 (by omega) (gS_n hSn16 (by omega) (gS_n hSn15 (by omega) (gS_n hSn14 (by omega) (gS_n hSn13 (by omega) (gS_n hSn12 (by omega) (gS_n hSn11 (by omega) (gS_n hSn10 (by omega) (gS_n hSn9 (by omega) (gS_n hSn8 (by omega) (gS_n hSn7 (by omega) (gS_n hSn6 (by omega) (gS_n hSn5 (by omega) (gS_s hSn4)))))))))))))))⟩)
    · exact (show P37 o 8 = some (o + 5) ∧ Sn18 (o + 5) = (20, 2) from ⟨(rd_n hP38 (by omega) (gR_n hPn18 (by omega) (rd_n hP36 (by omega) (gR_n hPn17 (by omega) (rd_n hP34 (by omega) (gR_n hPn16 (by omega) (rd_n hP32 (by omega) (gR_n hPn15 (by omega) (rd_n hP28 (by omega) (gR_n hPn14 (by omega) (rd_n hP26 (by omega) (gR_n hPn13 (by omega) (rd_n hP24 (by omega) (gR_n hPn12 (by omega) (rd_n hP22 (by omega) (gR_n hPn11 (by omega) (rd_n hP20 (by omega) (gR_n hPn10 (by omega) (rd_n hP18 (by omega) (gR_n hPn9 (by omega) (rd_n hP16 (by omega) (gR_n hPn8 (by omega) (rd_n hP14 (by omega) (gR_n hPn7 (by omega) (rd_n hP12 (by omega) (gR_n hPn6 (by omega) (rd_s hP10))))))))))))))))))))))))))), (gS_n hSn18 (by omega) (gS_n hSn17 (by omega) (gS_n hSn16 (by omega) (gS_n hSn15 (by omega) (gS_n hSn14 (by omega) (gS_n hSn13 (by omega) (gS_n hSn12 (by omega) (gS_n hSn11 (by omega) (gS_n hSn10 (by omega) (gS_n hSn9 (by omega) (gS_n hSn8 (by omega) (gS_n hSn7 (by omega) (gS_n hSn6 (by omega) (gS_s hSn5))))))))))))))⟩)
    · exact (show P37 o 9 = some (o + 6) ∧ Sn18 (o + 6) = (20, 2) from ⟨(rd_n hP38 (by omega) (gR_n hPn18 (by omega) (rd_n hP36 (by omega) (gR_n hPn17 (by omega) (rd_n hP34 (by omega) (gR_n hPn16 (by omega) (rd_n hP32 (by omega) (gR_n hPn15 (by omega) (rd_n hP28 (by omega) (gR_n hPn14 (by omega) (rd_n hP26 (by omega) (gR_n hPn13 (by omega) (rd_n hP24 (by omega) (gR_n hPn12 (by omega) (rd_n hP22 (by omega) (gR_n hPn11 (by omega) (rd_n hP20 (by omega) (gR_n hPn10 (by omega) (rd_n hP18 (by omega) (gR_n hPn9 (by omega) (rd_n hP16 (by omega) (gR_n hPn8 (by omega) (rd_n hP14 (by omega) (gR_n hPn7 (by omega) (rd_s hP12))))))))))))))))))))))))), (gS_n hSn18 (by omega) (gS_n hSn17 (by omega) (gS_n hSn16 (by omega) (gS_n hSn15 (by omega) (gS_n hSn14 (by omega) (gS_n hSn13 (by omega) (gS_n hSn12 (by omega) (gS_n hSn11 (by omega) (gS_n hSn10 (by omega) (gS_n hSn9 (by omega) (gS_n hSn8 (by omega) (gS_n hSn7 (by omega) (gS_s hSn6)))))))))))))⟩)
    · exact (show P37 o 10 = some (o + 7) ∧ Sn18 (o + 7) = (20, 2) from ⟨(rd_n hP38 (by omega) (gR_n hPn18 (by omega) (rd_n hP36 (by omega) (gR_n hPn17 (by omega) (rd_n hP34 (by omega) (gR_n hPn16 (by omega) (rd_n hP32 (by omega) (gR_n hPn15 (by omega) (rd_n hP28 (by omega) (gR_n hPn14 (by omega) (rd_n hP26 (by omega) (gR_n hPn13 (by omega) (rd_n hP24 (by omega) (gR_n hPn12 (by omega) (rd_n hP22 (by omega) (gR_n hPn11 (by omega) (rd_n hP20 (by omega) (gR_n hPn10 (by omega) (rd_n hP18 (by omega) (gR_n hPn9 (by omega) (rd_n hP16 (by omega) (gR_n hPn8 (by omega) (rd_s hP14))))))))))))))))))))))), (gS_n hSn18 (by omega) (gS_n hSn17 (by omega) (gS_n hSn16 (by omega) (gS_n hSn15 (by omega) (gS_n hSn14 (by omega) (gS_n hSn13 (by omega) (gS_n hSn12 (by omega) (gS_n hSn11 (by omega) (gS_n hSn10 (by omega) (gS_n hSn9 (by omega) (gS_n hSn8 (by omega) (gS_s hSn7))))))))))))⟩)
    · exact (show P37 o 12 = some (o + 8) ∧ Sn18 (o + 8) = (20, 6) from ⟨(rd_n hP38 (by omega) (gR_n hPn18 (by omega) (rd_n hP36 (by omega) (gR_n hPn17 (by omega) (rd_n hP34 (by omega) (gR_n hPn16 (by omega) (rd_n hP32 (by omega) (gR_n hPn15 (by omega) (rd_n hP28 (by omega) (gR_n hPn14 (by omega) (rd_n hP26 (by omega) (gR_n hPn13 (by omega) (rd_n hP24 (by omega) (gR_n hPn12 (by omega) (rd_n hP22 (by omega) (gR_n hPn11 (by omega) (rd_n hP20 (by omega) (gR_n hPn10 (by omega) (rd_n hP18 (by omega) (gR_n hPn9 (by omega) (rd_s hP16))))))))))))))))))))), (gS_n hSn18 (by omega) (gS_n hSn17 (by omega) (gS_n hSn16 (by omega) (gS_n hSn15 (by omega) (gS_n hSn14 (by omega) (gS_n hSn13 (by omega) (gS_n hSn12 (by omega) (gS_n hSn11 (by omega) (gS_n hSn10 (by omega) (gS_n hSn9 (by omega) (gS_s hSn8)))))))))))⟩)
    · exact (show P37 o 13 = some (o + 9) ∧ Sn18 (o + 9) = (20, 6) from ⟨(rd_n hP38 (by omega) (gR_n hPn18 (by omega) (rd_n hP36 (by omega) (gR_n hPn17 (by omega) (rd_n hP34 (by omega) (gR_n hPn16 (by omega) (rd_n hP32 (by omega) (gR_n hPn15 (by omega) (rd_n hP28 (by omega) (gR_n hPn14 (by omega) (rd_n hP26 (by omega) (gR_n hPn13 (by omega) (rd_n hP24 (by omega) (gR_n hPn12 (by omega) (rd_n hP22 (by omega) (gR_n hPn11 (by omega) (rd_n hP20 (by omega) (gR_n hPn10 (by omega) (rd_s hP18))))))))))))))))))), (gS_n hSn18 (by omega) (gS_n hSn17 (by omega) (gS_n hSn16 (by omega) (gS_n hSn15 (by omega) (gS_n hSn14 (by omega) (gS_n hSn13 (by omega) (gS_n hSn12 (by omega) (gS_n hSn11 (by omega) (gS_n hSn10 (by omega) (gS_s hSn9))))))))))⟩)
    · exact (show P37 o 14 = some (o + 10) ∧ Sn18 (o + 10) = (20, 6) from ⟨(rd_n hP38 (by omega) (gR_n hPn18 (by omega) (rd_n hP36 (by omega) (gR_n hPn17 (by omega) (rd_n hP34 (by omega) (gR_n hPn16 (by omega) (rd_n hP32 (by omega) (gR_n hPn15 (by omega) (rd_n hP28 (by omega) (gR_n hPn14 (by omega) (rd_n hP26 (by omega) (gR_n hPn13 (by omega) (rd_n hP24 (by omega) (gR_n hPn12 (by omega) (rd_n hP22 (by omega) (gR_n hPn11 (by omega) (rd_s hP20))))))))))))))))), (gS_n hSn18 (by omega) (gS_n hSn17 (by omega) (gS_n hSn16 (by omega) (gS_n hSn15 (by omega) (gS_n hSn14 (by omega) (gS_n hSn13 (by omega) (gS_n hSn12 (by omega) (gS_n hSn11 (by omega) (gS_s hSn10)))))))))⟩)
    · exact (show P37 o 32 = some (o + 11) ∧ Sn18 (o + 11) = (20, 60) from ⟨(rd_n hP38 (by omega) (gR_n hPn18 (by omega) (rd_n hP36 (by omega) (gR_n hPn17 (by omega) (rd_n hP34 (by omega) (gR_n hPn16 (by omega) (rd_n hP32 (by omega) (gR_n hPn15 (by omega) (rd_n hP28 (by omega) (gR_n hPn14 (by omega) (rd_n hP26 (by omega) (gR_n hPn13 (by omega) (rd_n hP24 (by omega) (gR_n hPn12 (by omega) (rd_s hP22))))))))))))))), (gS_n hSn18 (by omega) (gS_n hSn17 (by omega) (gS_n hSn16 (by omega) (gS_n hSn15 (by omega) (gS_n hSn14 (by omega) (gS_n hSn13 (by omega) (gS_n hSn12 (by omega) (gS_s hSn11))))))))⟩)
    · exact (show P37 o 38 = some (o + 12) ∧ Sn18 (o + 12) = (20, 40) from ⟨(rd_n hP38 (by omega) (gR_n hPn18 (by omega) (rd_n hP36 (by omega) (gR_n hPn17 (by omega) (rd_n hP34 (by omega) (gR_n hPn16 (by omega) (rd_n hP32 (by omega) (gR_n hPn15 (by omega) (rd_n hP28 (by omega) (gR_n hPn14 (by omega) (rd_n hP26 (by omega) (gR_n hPn13 (by omega) (rd_s hP24))))))))))))), (gS_n hSn18 (by omega) (gS_n hSn17 (by omega) (gS_n hSn16 (by omega) (gS_n hSn15 (by omega) (gS_n hSn14 (by omega) (gS_n hSn13 (by omega) (gS_s hSn12)))))))⟩)
    · exact (show P37 o 42 = some (o + 13) ∧ Sn18 (o + 13) = (20, 8) from ⟨(rd_n hP38 (by omega) (gR_n hPn18 (by omega) (rd_n hP36 (by omega) (gR_n hPn17 (by omega) (rd_n hP34 (by omega) (gR_n hPn16 (by omega) (rd_n hP32 (by omega) (gR_n hPn15 (by omega) (rd_n hP28 (by omega) (gR_n hPn14 (by omega) (rd_s hP26))))))))))), (gS_n hSn18 (by omega) (gS_n hSn17 (by omega) (gS_n hSn16 (by omega) (gS_n hSn15 (by omega) (gS_n hSn14 (by omega) (gS_s hSn13))))))⟩)
    · exact (show P37 o 43 = some (o + 14) ∧ Sn18 (o + 14) = (20, 12) from ⟨(rd_n hP38 (by omega) (gR_n hPn18 (by omega) (rd_n hP36 (by omega) (gR_n hPn17 (by omega) (rd_n hP34 (by omega) (gR_n hPn16 (by omega) (rd_n hP32 (by omega) (gR_n hPn15 (by omega) (rd_s hP28))))))))), (gS_n hSn18 (by omega) (gS_n hSn17 (by omega) (gS_n hSn16 (by omega) (gS_n hSn15 (by omega) (gS_s hSn14)))))⟩)
    · exact (show P37 o 47 = some (o + 15) ∧ Sn18 (o + 15) = (21, 4) from ⟨(rd_n hP38 (by omega) (gR_n hPn18 (by omega) (rd_n hP36 (by omega) (gR_n hPn17 (by omega) (rd_n hP34 (by omega) (gR_n hPn16 (by omega) (rd_s hP32))))))), (gS_n hSn18 (by omega) (gS_n hSn17 (by omega) (gS_n hSn16 (by omega) (gS_s hSn15))))⟩)
    · exact (show P37 o 48 = some (o + 16) ∧ Sn18 (o + 16) = (20, 4) from ⟨(rd_n hP38 (by omega) (gR_n hPn18 (by omega) (rd_n hP36 (by omega) (gR_n hPn17 (by omega) (rd_s hP34))))), (gS_n hSn18 (by omega) (gS_n hSn17 (by omega) (gS_s hSn16)))⟩)
    · exact (show P37 o 49 = some (o + 17) ∧ Sn18 (o + 17) = (20, 4) from ⟨(rd_n hP38 (by omega) (gR_n hPn18 (by omega) (rd_s hP36))), (gS_n hSn18 (by omega) (gS_s hSn17))⟩)
    · exact (show P37 o 50 = some (o + 18) ∧ Sn18 (o + 18) = (20, 160) from ⟨(rd_s hP38), (gS_s hSn18)⟩)
  have hfS : ∀ b, b < o → Sn18 b = S b := fun b z => (gS_n hSn18 (by omega) (gS_n hSn17 (by omega) (gS_n hSn16 (by omega) (gS_n hSn15 (by omega) (gS_n hSn14 (by omega) (gS_n hSn13 (by omega) (gS_n hSn12 (by omega) (gS_n hSn11 (by omega) (gS_n hSn10 (by omega) (gS_n hSn9 (by omega) (gS_n hSn8 (by omega) (gS_n hSn7 (by omega) (gS_n hSn6 (by omega) (gS_n hSn5 (by omega) (gS_n hSn4 (by omega) (gS_n hSn3 (by omega) (gS_n hSn2 (by omega) (gS_n hSn1 (by omega) rfl))))))))))))))))))
  have hfP : ∀ b, b < o → P37 b = P b := fun b z => funext fun k => (rd_n hP38 (by omega) (gR_n hPn18 (by omega) (rd_n hP36 (by omega) (gR_n hPn17 (by omega) (rd_n hP34 (by omega) (gR_n hPn16 (by omega) (rd_n hP32 (by omega) (gR_n hPn15 (by omega) (rd_n hP28 (by omega) (gR_n hPn14 (by omega) (rd_n hP26 (by omega) (gR_n hPn13 (by omega) (rd_n hP24 (by omega) (gR_n hPn12 (by omega) (rd_n hP22 (by omega) (gR_n hPn11 (by omega) (rd_n hP20 (by omega) (gR_n hPn10 (by omega) (rd_n hP18 (by omega) (gR_n hPn9 (by omega) (rd_n hP16 (by omega) (gR_n hPn8 (by omega) (rd_n hP14 (by omega) (gR_n hPn7 (by omega) (rd_n hP12 (by omega) (gR_n hPn6 (by omega) (rd_n hP10 (by omega) (gR_n hPn5 (by omega) (rd_n hP8 (by omega) (gR_n hPn4 (by omega) (rd_n hP6 (by omega) (gR_n hPn3 (by omega) (rd_n hP4 (by omega) (gR_n hPn2 (by omega) (rd_n hP2 (by omega) (gR_n hPn1 (by omega) rfl))))))))))))))))))))))))))))))))))))
  have hfM : ∀ b k, b < o → Mn18 b k = M b k := fun b k z => (gR_n hMn18 (by omega) (gR_n hMn17 (by omega) (gR_n hMn16 (by omega) (gR_n hMn15 (by omega) (rd_n hM30 (by omega) (gR_n hMn14 (by omega) (gR_n hMn13 (by omega) (gR_n hMn12 (by omega) (gR_n hMn11 (by omega) (gR_n hMn10 (by omega) (gR_n hMn9 (by omega) (gR_n hMn8 (by omega) (gR_n hMn7 (by omega) (gR_n hMn6 (by omega) (gR_n hMn5 (by omega) (gR_n hMn4 (by omega) (gR_n hMn3 (by omega) (gR_n hMn2 (by omega) (gR_n hMn1 (by omega) rfl)))))))))))))))))))
  have h44 : Mn18 o 44 = -1 := (gR_n hMn18 (by omega) (gR_n hMn17 (by omega) (gR_n hMn16 (by omega) (gR_n hMn15 (by omega) (rd_s hM30)))))
  have hM0 : ∀ k, ¬ k = 44 → Mn18 o k = 0 := fun k z => (gR_n hMn18 (by omega) (gR_n hMn17 (by omega) (gR_n hMn16 (by omega) (gR_n hMn15 (by omega) (rd_n hM30 (by omega) (gR_n hMn14 (by omega) (gR_n hMn13 (by omega) (gR_n hMn12 (by omega) (gR_n hMn11 (by omega) (gR_n hMn10 (by omega) (gR_n hMn9 (by omega) (gR_n hMn8 (by omega) (gR_n hMn7 (by omega) (gR_n hMn6 (by omega) (gR_n hMn5 (by omega) (gR_n hMn4 (by omega) (gR_n hMn3 (by omega) (gR_n hMn2 (by omega) (gR_n hMn1 (by omega) (h0 k))))))))))))))))))))
  have hMa : ∀ t k, 0 < t → t < 19 → Mn18 (o + t) k = 0 := by
    intro t k t0 t1
    match t, t0, t1 with
    | 1, _, _ => exact (gR_n hMn18 (by omega) (gR_n hMn17 (by omega) (gR_n hMn16 (by omega) (gR_n hMn15 (by omega) (rd_n hM30 (by omega) (gR_n hMn14 (by omega) (gR_n hMn13 (by omega) (gR_n hMn12 (by omega) (gR_n hMn11 (by omega) (gR_n hMn10 (by omega) (gR_n hMn9 (by omega) (gR_n hMn8 (by omega) (gR_n hMn7 (by omega) (gR_n hMn6 (by omega) (gR_n hMn5 (by omega) (gR_n hMn4 (by omega) (gR_n hMn3 (by omega) (gR_n hMn2 (by omega) (gR_s hMn1)))))))))))))))))))
    | 2, _, _ => exact (gR_n hMn18 (by omega) (gR_n hMn17 (by omega) (gR_n hMn16 (by omega) (gR_n hMn15 (by omega) (rd_n hM30 (by omega) (gR_n hMn14 (by omega) (gR_n hMn13 (by omega) (gR_n hMn12 (by omega) (gR_n hMn11 (by omega) (gR_n hMn10 (by omega) (gR_n hMn9 (by omega) (gR_n hMn8 (by omega) (gR_n hMn7 (by omega) (gR_n hMn6 (by omega) (gR_n hMn5 (by omega) (gR_n hMn4 (by omega) (gR_n hMn3 (by omega) (gR_s hMn2))))))))))))))))))
    | 3, _, _ => exact (gR_n hMn18 (by omega) (gR_n hMn17 (by omega) (gR_n hMn16 (by omega) (gR_n hMn15 (by omega) (rd_n hM30 (by omega) (gR_n hMn14 (by omega) (gR_n hMn13 (by omega) (gR_n hMn12 (by omega) (gR_n hMn11 (by omega) (gR_n hMn10 (by omega) (gR_n hMn9 (by omega) (gR_n hMn8 (by omega) (gR_n hMn7 (by omega) (gR_n hMn6 (by omega) (gR_n hMn5 (by omega) (gR_n hMn4 (by omega) (gR_s hMn3)))))))))))))))))
    | 4, _, _ => exact (gR_n hMn18 (by omega) (gR_n hMn17 (by omega) (gR_n hMn16 (by omega) (gR_n hMn15 (by omega) (rd_n hM30 (by omega) (gR_n hMn14 (by omega) (gR_n hMn13 (by omega) (gR_n hMn12 (by omega) (gR_n hMn11 (by omega) (gR_n hMn10 (by omega) (gR_n hMn9 (by omega) (gR_n hMn8 (by omega) (gR_n hMn7 (by omega) (gR_n hMn6 (by omega) (gR_n hMn5 (by omega) (gR_s hMn4))))))))))))))))
    | 5, _, _ => exact (gR_n hMn18 (by omega) (gR_n hMn17 (by omega) (gR_n hMn16 (by omega) (gR_n hMn15 (by omega) (rd_n hM30 (by omega) (gR_n hMn14 (by omega) (gR_n hMn13 (by omega) (gR_n hMn12 (by omega) (gR_n hMn11 (by omega) (gR_n hMn10 (by omega) (gR_n hMn9 (by omega) (gR_n hMn8 (by omega) (gR_n hMn7 (by omega) (gR_n hMn6 (by omega) (gR_s hMn5)))))))))))))))
    | 6, _, _ => exact (gR_n hMn18 (by omega) (gR_n hMn17 (by omega) (gR_n hMn16 (by omega) (gR_n hMn15 (by omega) (rd_n hM30 (by omega) (gR_n hMn14 (by omega) (gR_n hMn13 (by omega) (gR_n hMn12 (by omega) (gR_n hMn11 (by omega) (gR_n hMn10 (by omega) (gR_n hMn9 (by omega) (gR_n hMn8 (by omega) (gR_n hMn7 (by omega) (gR_s hMn6))))))))))))))
    | 7, _, _ => exact (gR_n hMn18 (by omega) (gR_n hMn17 (by omega) (gR_n hMn16 (by omega) (gR_n hMn15 (by omega) (rd_n hM30 (by omega) (gR_n hMn14 (by omega) (gR_n hMn13 (by omega) (gR_n hMn12 (by omega) (gR_n hMn11 (by omega) (gR_n hMn10 (by omega) (gR_n hMn9 (by omega) (gR_n hMn8 (by omega) (gR_s hMn7)))))))))))))
    | 8, _, _ => exact (gR_n hMn18 (by omega) (gR_n hMn17 (by omega) (gR_n hMn16 (by omega) (gR_n hMn15 (by omega) (rd_n hM30 (by omega) (gR_n hMn14 (by omega) (gR_n hMn13 (by omega) (gR_n hMn12 (by omega) (gR_n hMn11 (by omega) (gR_n hMn10 (by omega) (gR_n hMn9 (by omega) (gR_s hMn8))))))))))))
    | 9, _, _ => exact (gR_n hMn18 (by omega) (gR_n hMn17 (by omega) (gR_n hMn16 (by omega) (gR_n hMn15 (by omega) (rd_n hM30 (by omega) (gR_n hMn14 (by omega) (gR_n hMn13 (by omega) (gR_n hMn12 (by omega) (gR_n hMn11 (by omega) (gR_n hMn10 (by omega) (gR_s hMn9)))))))))))
    | 10, _, _ => exact (gR_n hMn18 (by omega) (gR_n hMn17 (by omega) (gR_n hMn16 (by omega) (gR_n hMn15 (by omega) (rd_n hM30 (by omega) (gR_n hMn14 (by omega) (gR_n hMn13 (by omega) (gR_n hMn12 (by omega) (gR_n hMn11 (by omega) (gR_s hMn10))))))))))
    | 11, _, _ => exact (gR_n hMn18 (by omega) (gR_n hMn17 (by omega) (gR_n hMn16 (by omega) (gR_n hMn15 (by omega) (rd_n hM30 (by omega) (gR_n hMn14 (by omega) (gR_n hMn13 (by omega) (gR_n hMn12 (by omega) (gR_s hMn11)))))))))
    | 12, _, _ => exact (gR_n hMn18 (by omega) (gR_n hMn17 (by omega) (gR_n hMn16 (by omega) (gR_n hMn15 (by omega) (rd_n hM30 (by omega) (gR_n hMn14 (by omega) (gR_n hMn13 (by omega) (gR_s hMn12))))))))
    | 13, _, _ => exact (gR_n hMn18 (by omega) (gR_n hMn17 (by omega) (gR_n hMn16 (by omega) (gR_n hMn15 (by omega) (rd_n hM30 (by omega) (gR_n hMn14 (by omega) (gR_s hMn13)))))))
    | 14, _, _ => exact (gR_n hMn18 (by omega) (gR_n hMn17 (by omega) (gR_n hMn16 (by omega) (gR_n hMn15 (by omega) (rd_n hM30 (by omega) (gR_s hMn14))))))
    | 15, _, _ => exact (gR_n hMn18 (by omega) (gR_n hMn17 (by omega) (gR_n hMn16 (by omega) (gR_s hMn15))))
    | 16, _, _ => exact (gR_n hMn18 (by omega) (gR_n hMn17 (by omega) (gR_s hMn16)))
    | 17, _, _ => exact (gR_n hMn18 (by omega) (gR_s hMn17))
    | 18, _, _ => exact (gR_s hMn18)
    | t + 19, _, h => exact absurd h (by omega)
  refine JJ_iconst (v := 0) dX12_init_149 rfl ?_
  refine JJ_istore_n (lv' := [(1, .int 0), (0, .ref o)]) dX12_init_150 rfl (by decide) rfl ?_
  refine JJ_iload_n dX12_init_151 rfl rfl ?_
  refine JJ_iconst (v := 2) dX12_init_152 rfl ?_
  refine JJ_icmp_ge (tgt := 194) dX12_init_153 (by decide) (fun c39 => absurd c39 (by decide)) (fun _ => ?_)
  refine JJ_aload_n dX12_init_156 rfl rfl ?_
  refine JJ_getr (q := o + 4) (cis := [12]) (k := 7) fa_X12_23 (by decide) hR.1 rfl (hR.2 (7, 4, 20, 2) (by decide)).1 dX12_init_157 ?_
  refine JJ_iload_n dX12_init_160 rfl rfl ?_
  refine JJ_bipush (v := 12) dX12_init_161 rfl ?_
  refine JJ_iastX (hR.2 (7, 4, 20, 2) (by decide)).2 (IX_of (j := 0) rfl (by decide) (by decide)) dX12_init_163 (fun M40 hM41 => ?_)
  refine JJ_aload_n dX12_init_164 rfl rfl ?_
  refine JJ_getr (q := o + 5) (cis := [12]) (k := 8) fa_X12_26 (by decide) hR.1 rfl (hR.2 (8, 5, 20, 2) (by decide)).1 dX12_init_165 ?_
  refine JJ_iload_n dX12_init_168 rfl rfl ?_
  refine JJ_sipush (v := 500) dX12_init_169 rfl ?_
  refine JJ_iastX (hR.2 (8, 5, 20, 2) (by decide)).2 (IX_of (j := 0) rfl (by decide) (by decide)) dX12_init_172 (fun M42 hM43 => ?_)
  refine JJ_aload_n dX12_init_173 rfl rfl ?_
  refine JJ_getr (q := o + 6) (cis := [12]) (k := 9) fa_X12_29 (by decide) hR.1 rfl (hR.2 (9, 6, 20, 2) (by decide)).1 dX12_init_174 ?_
  refine JJ_iload_n dX12_init_177 rfl rfl ?_
  refine JJ_iconst (v := 5) dX12_init_178 rfl ?_
  refine JJ_iastX (hR.2 (9, 6, 20, 2) (by decide)).2 (IX_of (j := 0) rfl (by decide) (by decide)) dX12_init_179 (fun M44 hM45 => ?_)
  refine JJ_aload_n dX12_init_180 rfl rfl ?_
  refine JJ_getr (q := o + 7) (cis := [12]) (k := 10) fa_X12_32 (by decide) hR.1 rfl (hR.2 (10, 7, 20, 2) (by decide)).1 dX12_init_181 ?_
  refine JJ_iload_n dX12_init_184 rfl rfl ?_
  refine JJ_bipush (v := 12) dX12_init_185 rfl ?_
  refine JJ_iastX (hR.2 (10, 7, 20, 2) (by decide)).2 (IX_of (j := 0) rfl (by decide) (by decide)) dX12_init_187 (fun M46 hM47 => ?_)
  refine JJ_iinc (v := 1) (lv' := [(1, .int 1), (0, .ref o)]) dX12_init_188 rfl (by decide) (by decide) rfl ?_
  refine JJ_goto (tgt := 151) dX12_init_191 (by decide) ?_
  refine JJ_iload_n dX12_init_151 rfl rfl ?_
  refine JJ_iconst (v := 2) dX12_init_152 rfl ?_
  refine JJ_icmp_ge (tgt := 194) dX12_init_153 (by decide) (fun c48 => absurd c48 (by decide)) (fun _ => ?_)
  refine JJ_aload_n dX12_init_156 rfl rfl ?_
  refine JJ_getr (q := o + 4) (cis := [12]) (k := 7) fa_X12_23 (by decide) hR.1 rfl (hR.2 (7, 4, 20, 2) (by decide)).1 dX12_init_157 ?_
  refine JJ_iload_n dX12_init_160 rfl rfl ?_
  refine JJ_bipush (v := 12) dX12_init_161 rfl ?_
  refine JJ_iastX (hR.2 (7, 4, 20, 2) (by decide)).2 (IX_of (j := 1) rfl (by decide) (by decide)) dX12_init_163 (fun M49 hM50 => ?_)
  refine JJ_aload_n dX12_init_164 rfl rfl ?_
  refine JJ_getr (q := o + 5) (cis := [12]) (k := 8) fa_X12_26 (by decide) hR.1 rfl (hR.2 (8, 5, 20, 2) (by decide)).1 dX12_init_165 ?_
  refine JJ_iload_n dX12_init_168 rfl rfl ?_
  refine JJ_sipush (v := 500) dX12_init_169 rfl ?_
  refine JJ_iastX (hR.2 (8, 5, 20, 2) (by decide)).2 (IX_of (j := 1) rfl (by decide) (by decide)) dX12_init_172 (fun M51 hM52 => ?_)
  refine JJ_aload_n dX12_init_173 rfl rfl ?_
  refine JJ_getr (q := o + 6) (cis := [12]) (k := 9) fa_X12_29 (by decide) hR.1 rfl (hR.2 (9, 6, 20, 2) (by decide)).1 dX12_init_174 ?_
  refine JJ_iload_n dX12_init_177 rfl rfl ?_
  refine JJ_iconst (v := 5) dX12_init_178 rfl ?_
  refine JJ_iastX (hR.2 (9, 6, 20, 2) (by decide)).2 (IX_of (j := 1) rfl (by decide) (by decide)) dX12_init_179 (fun M53 hM54 => ?_)
  refine JJ_aload_n dX12_init_180 rfl rfl ?_
  refine JJ_getr (q := o + 7) (cis := [12]) (k := 10) fa_X12_32 (by decide) hR.1 rfl (hR.2 (10, 7, 20, 2) (by decide)).1 dX12_init_181 ?_
  refine JJ_iload_n dX12_init_184 rfl rfl ?_
  refine JJ_bipush (v := 12) dX12_init_185 rfl ?_
  refine JJ_iastX (hR.2 (10, 7, 20, 2) (by decide)).2 (IX_of (j := 1) rfl (by decide) (by decide)) dX12_init_187 (fun M55 hM56 => ?_)
  refine JJ_iinc (v := 2) (lv' := [(1, .int 2), (0, .ref o)]) dX12_init_188 rfl (by decide) (by decide) rfl ?_
  refine JJ_goto (tgt := 151) dX12_init_191 (by decide) ?_
  refine JJ_iload_n dX12_init_151 rfl rfl ?_
  refine JJ_iconst (v := 2) dX12_init_152 rfl ?_
  refine JJ_icmp_ge (tgt := 194) dX12_init_153 (by decide) (fun _ => ?_) (fun c57 => absurd (by decide) c57)
  refine JJ_aload_n dX12_init_194 rfl rfl ?_
  refine JJ_iconst (v := 0) dX12_init_195 rfl ?_
  refine JJ_bipush (v := 102) dX12_init_196 rfl ?_
  refine JJ_bipush (v := 108) dX12_init_198 rfl ?_
  refine JJ_bipush (v := 105) dX12_init_200 rfl ?_
  refine JJ_bipush (v := 101) dX12_init_202 rfl ?_
  refine JJ_bipush (v := 115) dX12_init_204 rfl ?_
  refine JJ_bipush (v := 32) dX12_init_206 rfl ?_
  refine JJ_bipush (v := 56) dX12_init_208 rfl ?_
  refine JJ_bipush (v := 32) dX12_init_210 rfl ?_
  refine JJ_callV (rest := []) hR.1 rfl rfl (kr_spell (at1 := 0) (by decide) hR) (by omega) mi_X12_spell lk_X12_72 rfl (Nat.le_of_ble_eq_true rfl) rfl rfl dX12_init_212 ?_
  intro v58 μ59 h60
  obtain ⟨rfl, Ms0, rfl, hsp0, hfs0⟩ := h60
  refine JJ_r0 ?_
  refine JJ_aload_n dX12_init_215 rfl rfl ?_
  refine JJ_bipush (v := 8) dX12_init_216 rfl ?_
  refine JJ_bipush (v := 43) dX12_init_218 rfl ?_
  refine JJ_bipush (v := 32) dX12_init_220 rfl ?_
  refine JJ_bipush (v := 102) dX12_init_222 rfl ?_
  refine JJ_bipush (v := 97) dX12_init_224 rfl ?_
  refine JJ_bipush (v := 114) dX12_init_226 rfl ?_
  refine JJ_bipush (v := 32) dX12_init_228 rfl ?_
  refine JJ_bipush (v := 42) dX12_init_230 rfl ?_
  refine JJ_bipush (v := 32) dX12_init_232 rfl ?_
  refine JJ_callV (rest := []) hR.1 rfl rfl (kr_spell (at1 := 8) (by decide) hR) (by omega) mi_X12_spell lk_X12_72 rfl (Nat.le_of_ble_eq_true rfl) rfl rfl dX12_init_234 ?_
  intro v61 μ62 h63
  obtain ⟨rfl, Ms1, rfl, hsp1, hfs1⟩ := h63
  refine JJ_r0 ?_
  refine JJ_aload_n dX12_init_237 rfl rfl ?_
  refine JJ_bipush (v := 16) dX12_init_238 rfl ?_
  refine JJ_bipush (v := 51) dX12_init_240 rfl ?_
  refine JJ_bipush (v := 32) dX12_init_242 rfl ?_
  refine JJ_bipush (v := 59) dX12_init_244 rfl ?_
  refine JJ_bipush (v := 32) dX12_init_246 rfl ?_
  refine JJ_bipush (v := 115) dX12_init_248 rfl ?_
  refine JJ_bipush (v := 116) dX12_init_250 rfl ?_
  refine JJ_bipush (v := 101) dX12_init_252 rfl ?_
  refine JJ_bipush (v := 112) dX12_init_254 rfl ?_
  refine JJ_callV (rest := []) hR.1 rfl rfl (kr_spell (at1 := 16) (by decide) hR) (by omega) mi_X12_spell lk_X12_72 rfl (Nat.le_of_ble_eq_true rfl) rfl rfl dX12_init_256 ?_
  intro v64 μ65 h66
  obtain ⟨rfl, Ms2, rfl, hsp2, hfs2⟩ := h66
  refine JJ_r0 ?_
  refine JJ_aload_n dX12_init_259 rfl rfl ?_
  refine JJ_bipush (v := 24) dX12_init_260 rfl ?_
  refine JJ_bipush (v := 115) dX12_init_262 rfl ?_
  refine JJ_bipush (v := 32) dX12_init_264 rfl ?_
  refine JJ_bipush (v := 57) dX12_init_266 rfl ?_
  refine JJ_bipush (v := 32) dX12_init_268 rfl ?_
  refine JJ_bipush (v := 45) dX12_init_270 rfl ?_
  refine JJ_bipush (v := 32) dX12_init_272 rfl ?_
  refine JJ_bipush (v := 113) dX12_init_274 rfl ?_
  refine JJ_bipush (v := 117) dX12_init_276 rfl ?_
  refine JJ_callV (rest := []) hR.1 rfl rfl (kr_spell (at1 := 24) (by decide) hR) (by omega) mi_X12_spell lk_X12_72 rfl (Nat.le_of_ble_eq_true rfl) rfl rfl dX12_init_278 ?_
  intro v67 μ68 h69
  obtain ⟨rfl, Ms3, rfl, hsp3, hfs3⟩ := h69
  refine JJ_r0 ?_
  refine JJ_aload_n dX12_init_281 rfl rfl ?_
  refine JJ_bipush (v := 32) dX12_init_282 rfl ?_
  refine JJ_bipush (v := 105) dX12_init_284 rfl ?_
  refine JJ_bipush (v := 99) dX12_init_286 rfl ?_
  refine JJ_bipush (v := 107) dX12_init_288 rfl ?_
  refine JJ_bipush (v := 32) dX12_init_290 rfl ?_
  refine JJ_bipush (v := 59) dX12_init_292 rfl ?_
  refine JJ_bipush (v := 32) dX12_init_294 rfl ?_
  refine JJ_bipush (v := 115) dX12_init_296 rfl ?_
  refine JJ_bipush (v := 108) dX12_init_298 rfl ?_
  refine JJ_callV (rest := []) hR.1 rfl rfl (kr_spell (at1 := 32) (by decide) hR) (by omega) mi_X12_spell lk_X12_72 rfl (Nat.le_of_ble_eq_true rfl) rfl rfl dX12_init_300 ?_
  intro v70 μ71 h72
  obtain ⟨rfl, Ms4, rfl, hsp4, hfs4⟩ := h72
  refine JJ_r0 ?_
  refine JJ_aload_n dX12_init_303 rfl rfl ?_
  refine JJ_bipush (v := 40) dX12_init_304 rfl ?_
  refine JJ_bipush (v := 105) dX12_init_306 rfl ?_
  refine JJ_bipush (v := 112) dX12_init_308 rfl ?_
  refine JJ_bipush (v := 115) dX12_init_310 rfl ?_
  refine JJ_bipush (v := 32) dX12_init_312 rfl ?_
  refine JJ_bipush (v := 102) dX12_init_314 rfl ?_
  refine JJ_bipush (v := 97) dX12_init_316 rfl ?_
  refine JJ_bipush (v := 114) dX12_init_318 rfl ?_
  refine JJ_bipush (v := 32) dX12_init_320 rfl ?_
  refine JJ_callV (rest := []) hR.1 rfl rfl (kr_spell (at1 := 40) (by decide) hR) (by omega) mi_X12_spell lk_X12_72 rfl (Nat.le_of_ble_eq_true rfl) rfl rfl dX12_init_322 ?_
  intro v73 μ74 h75
  obtain ⟨rfl, Ms5, rfl, hsp5, hfs5⟩ := h75
  refine JJ_r0 ?_
  refine JJ_aload_n dX12_init_325 rfl rfl ?_
  refine JJ_bipush (v := 48) dX12_init_326 rfl ?_
  refine JJ_bipush (v := 42) dX12_init_328 rfl ?_
  refine JJ_bipush (v := 32) dX12_init_330 rfl ?_
  refine JJ_bipush (v := 50) dX12_init_332 rfl ?_
  refine JJ_bipush (v := 32) dX12_init_334 rfl ?_
  refine JJ_bipush (v := 59) dX12_init_336 rfl ?_
  refine JJ_bipush (v := 32) dX12_init_338 rfl ?_
  refine JJ_bipush (v := 32) dX12_init_340 rfl ?_
  refine JJ_bipush (v := 32) dX12_init_342 rfl ?_
  refine JJ_callV (rest := []) hR.1 rfl rfl (kr_spell (at1 := 48) (by decide) hR) (by omega) mi_X12_spell lk_X12_72 rfl (Nat.le_of_ble_eq_true rfl) rfl rfl dX12_init_344 ?_
  intro v76 μ77 h78
  obtain ⟨rfl, Ms6, rfl, hsp6, hfs6⟩ := h78
  refine JJ_r0 ?_
  refine JJ_aload_n dX12_init_347 rfl rfl ?_
  refine JJ_getr (q := o + 2) (cis := [12]) (k := 2) fa_X12_17 (by decide) hR.1 rfl (hR.2 (2, 2, 20, 6) (by decide)).1 dX12_init_348 ?_
  refine JJ_iconst (v := 0) dX12_init_351 rfl ?_
  refine JJ_bipush (v := 56) dX12_init_352 rfl ?_
  refine JJ_iastX (hR.2 (2, 2, 20, 6) (by decide)).2 (IX_of (j := 0) rfl (by decide) (by decide)) dX12_init_354 (fun M79 hM80 => ?_)
  refine JJ_aload_n dX12_init_355 rfl rfl ?_
  refine JJ_iconst (v := 1) dX12_init_356 rfl ?_
  refine JJ_puti (cis := [12]) (k := 3) fa_X12_76 (by decide) hR.1 rfl (fun r hr => by cases hr; exact ⟨rfl, by decide +kernel⟩) dX12_init_357 (fun M81 hM82 => ?_)
  refine JJ_vret dX12_init_360 rfl ?_
  have e4 : ∀ p, p < 2 → M81 (o + 4) p = 12 := by
    intro p hp
    match p, hp with
    | 0, _ => exact (rd_n hM82 (by omega) (rd_n hM80 (by omega) ((hfs6 _ _ (by omega)).trans ((hfs5 _ _ (by omega)).trans ((hfs4 _ _ (by omega)).trans ((hfs3 _ _ (by omega)).trans ((hfs2 _ _ (by omega)).trans ((hfs1 _ _ (by omega)).trans ((hfs0 _ _ (by omega)).trans (rd_n hM56 (by omega) (rd_n hM54 (by omega) (rd_n hM52 (by omega) (rd_n hM50 (by omega) (rd_n hM47 (by omega) (rd_n hM45 (by omega) (rd_n hM43 (by omega) (rd_s hM41)))))))))))))))))
    | 1, _ => exact (rd_n hM82 (by omega) (rd_n hM80 (by omega) ((hfs6 _ _ (by omega)).trans ((hfs5 _ _ (by omega)).trans ((hfs4 _ _ (by omega)).trans ((hfs3 _ _ (by omega)).trans ((hfs2 _ _ (by omega)).trans ((hfs1 _ _ (by omega)).trans ((hfs0 _ _ (by omega)).trans (rd_n hM56 (by omega) (rd_n hM54 (by omega) (rd_n hM52 (by omega) (rd_s hM50)))))))))))))
  have e5 : ∀ p, p < 2 → M81 (o + 5) p = 500 := by
    intro p hp
    match p, hp with
    | 0, _ => exact (rd_n hM82 (by omega) (rd_n hM80 (by omega) ((hfs6 _ _ (by omega)).trans ((hfs5 _ _ (by omega)).trans ((hfs4 _ _ (by omega)).trans ((hfs3 _ _ (by omega)).trans ((hfs2 _ _ (by omega)).trans ((hfs1 _ _ (by omega)).trans ((hfs0 _ _ (by omega)).trans (rd_n hM56 (by omega) (rd_n hM54 (by omega) (rd_n hM52 (by omega) (rd_n hM50 (by omega) (rd_n hM47 (by omega) (rd_n hM45 (by omega) (rd_s hM43))))))))))))))))
    | 1, _ => exact (rd_n hM82 (by omega) (rd_n hM80 (by omega) ((hfs6 _ _ (by omega)).trans ((hfs5 _ _ (by omega)).trans ((hfs4 _ _ (by omega)).trans ((hfs3 _ _ (by omega)).trans ((hfs2 _ _ (by omega)).trans ((hfs1 _ _ (by omega)).trans ((hfs0 _ _ (by omega)).trans (rd_n hM56 (by omega) (rd_n hM54 (by omega) (rd_s hM52))))))))))))
  have e6 : ∀ p, p < 2 → M81 (o + 6) p = 5 := by
    intro p hp
    match p, hp with
    | 0, _ => exact (rd_n hM82 (by omega) (rd_n hM80 (by omega) ((hfs6 _ _ (by omega)).trans ((hfs5 _ _ (by omega)).trans ((hfs4 _ _ (by omega)).trans ((hfs3 _ _ (by omega)).trans ((hfs2 _ _ (by omega)).trans ((hfs1 _ _ (by omega)).trans ((hfs0 _ _ (by omega)).trans (rd_n hM56 (by omega) (rd_n hM54 (by omega) (rd_n hM52 (by omega) (rd_n hM50 (by omega) (rd_n hM47 (by omega) (rd_s hM45)))))))))))))))
    | 1, _ => exact (rd_n hM82 (by omega) (rd_n hM80 (by omega) ((hfs6 _ _ (by omega)).trans ((hfs5 _ _ (by omega)).trans ((hfs4 _ _ (by omega)).trans ((hfs3 _ _ (by omega)).trans ((hfs2 _ _ (by omega)).trans ((hfs1 _ _ (by omega)).trans ((hfs0 _ _ (by omega)).trans (rd_n hM56 (by omega) (rd_s hM54)))))))))))
  have e7 : ∀ p, p < 2 → M81 (o + 7) p = 12 := by
    intro p hp
    match p, hp with
    | 0, _ => exact (rd_n hM82 (by omega) (rd_n hM80 (by omega) ((hfs6 _ _ (by omega)).trans ((hfs5 _ _ (by omega)).trans ((hfs4 _ _ (by omega)).trans ((hfs3 _ _ (by omega)).trans ((hfs2 _ _ (by omega)).trans ((hfs1 _ _ (by omega)).trans ((hfs0 _ _ (by omega)).trans (rd_n hM56 (by omega) (rd_n hM54 (by omega) (rd_n hM52 (by omega) (rd_n hM50 (by omega) (rd_s hM47))))))))))))))
    | 1, _ => exact (rd_n hM82 (by omega) (rd_n hM80 (by omega) ((hfs6 _ _ (by omega)).trans ((hfs5 _ _ (by omega)).trans ((hfs4 _ _ (by omega)).trans ((hfs3 _ _ (by omega)).trans ((hfs2 _ _ (by omega)).trans ((hfs1 _ _ (by omega)).trans ((hfs0 _ _ (by omega)).trans (rd_s hM56))))))))))
  have e1 : ∀ i, i < 56 → M81 (o + 1) i = bRule i := by
    intro i hi
    by_cases z0 : i < 8
    · have hq : Ms0 (o + 1) i = bRule i := by
        obtain ⟨x, hx, rfl⟩ : ∃ x, x < 8 ∧ i = 0 + x := ⟨i - 0, by omega, by omega⟩
        rw [hsp0 x hx]
        exact (by decide : ∀ x, x < 8 → l8 102 108 105 101 115 32 56 32 x = bRule (0 + x)) x hx
      exact (rd_n hM82 (by omega) (rd_n hM80 (by omega) ((hfs6 _ _ (by omega)).trans ((hfs5 _ _ (by omega)).trans ((hfs4 _ _ (by omega)).trans ((hfs3 _ _ (by omega)).trans ((hfs2 _ _ (by omega)).trans ((hfs1 _ _ (by omega)).trans hq))))))))
    by_cases z1 : i < 16
    · have hq : Ms1 (o + 1) i = bRule i := by
        obtain ⟨x, hx, rfl⟩ : ∃ x, x < 8 ∧ i = 8 + x := ⟨i - 8, by omega, by omega⟩
        rw [hsp1 x hx]
        exact (by decide : ∀ x, x < 8 → l8 43 32 102 97 114 32 42 32 x = bRule (8 + x)) x hx
      exact (rd_n hM82 (by omega) (rd_n hM80 (by omega) ((hfs6 _ _ (by omega)).trans ((hfs5 _ _ (by omega)).trans ((hfs4 _ _ (by omega)).trans ((hfs3 _ _ (by omega)).trans ((hfs2 _ _ (by omega)).trans hq)))))))
    by_cases z2 : i < 24
    · have hq : Ms2 (o + 1) i = bRule i := by
        obtain ⟨x, hx, rfl⟩ : ∃ x, x < 8 ∧ i = 16 + x := ⟨i - 16, by omega, by omega⟩
        rw [hsp2 x hx]
        exact (by decide : ∀ x, x < 8 → l8 51 32 59 32 115 116 101 112 x = bRule (16 + x)) x hx
      exact (rd_n hM82 (by omega) (rd_n hM80 (by omega) ((hfs6 _ _ (by omega)).trans ((hfs5 _ _ (by omega)).trans ((hfs4 _ _ (by omega)).trans ((hfs3 _ _ (by omega)).trans hq))))))
    by_cases z3 : i < 32
    · have hq : Ms3 (o + 1) i = bRule i := by
        obtain ⟨x, hx, rfl⟩ : ∃ x, x < 8 ∧ i = 24 + x := ⟨i - 24, by omega, by omega⟩
        rw [hsp3 x hx]
        exact (by decide : ∀ x, x < 8 → l8 115 32 57 32 45 32 113 117 x = bRule (24 + x)) x hx
      exact (rd_n hM82 (by omega) (rd_n hM80 (by omega) ((hfs6 _ _ (by omega)).trans ((hfs5 _ _ (by omega)).trans ((hfs4 _ _ (by omega)).trans hq)))))
    by_cases z4 : i < 40
    · have hq : Ms4 (o + 1) i = bRule i := by
        obtain ⟨x, hx, rfl⟩ : ∃ x, x < 8 ∧ i = 32 + x := ⟨i - 32, by omega, by omega⟩
        rw [hsp4 x hx]
        exact (by decide : ∀ x, x < 8 → l8 105 99 107 32 59 32 115 108 x = bRule (32 + x)) x hx
      exact (rd_n hM82 (by omega) (rd_n hM80 (by omega) ((hfs6 _ _ (by omega)).trans ((hfs5 _ _ (by omega)).trans hq))))
    by_cases z5 : i < 48
    · have hq : Ms5 (o + 1) i = bRule i := by
        obtain ⟨x, hx, rfl⟩ : ∃ x, x < 8 ∧ i = 40 + x := ⟨i - 40, by omega, by omega⟩
        rw [hsp5 x hx]
        exact (by decide : ∀ x, x < 8 → l8 105 112 115 32 102 97 114 32 x = bRule (40 + x)) x hx
      exact (rd_n hM82 (by omega) (rd_n hM80 (by omega) ((hfs6 _ _ (by omega)).trans hq)))
    have hq : Ms6 (o + 1) i = bRule i := by
      obtain ⟨x, hx, rfl⟩ : ∃ x, x < 8 ∧ i = 48 + x := ⟨i - 48, by omega, by omega⟩
      rw [hsp6 x hx]
      exact (by decide : ∀ x, x < 8 → l8 42 32 50 32 59 32 32 32 x = bRule (48 + x)) x hx
    exact (rd_n hM82 (by omega) (rd_n hM80 (by omega) hq))
  have e2 : M81 (o + 2) 0 = 56 := (rd_n hM82 (by omega) (rd_s hM80))
  have e3 : M81 o 3 = 1 := (rd_s hM82)
  have e44 : M81 o 44 = -1 := (rd_n hM82 (by omega) (rd_n hM80 (by omega) ((hfs6 _ _ (by omega)).trans ((hfs5 _ _ (by omega)).trans ((hfs4 _ _ (by omega)).trans ((hfs3 _ _ (by omega)).trans ((hfs2 _ _ (by omega)).trans ((hfs1 _ _ (by omega)).trans ((hfs0 _ _ (by omega)).trans (rd_n hM56 (by omega) (rd_n hM54 (by omega) (rd_n hM52 (by omega) (rd_n hM50 (by omega) (rd_n hM47 (by omega) (rd_n hM45 (by omega) (rd_n hM43 (by omega) (rd_n hM41 (by omega) h44)))))))))))))))))
  have ez : ∀ t k, t < 19 → ¬ t = 1 → ¬ t = 2 → ¬ (4 ≤ t ∧ t ≤ 7) → ¬ (t = 0 ∧ (k = 3 ∨ k = 44)) → M81 (o + t) k = 0 := by
    intro t k z1 z2 z3 z4 z5
    by_cases t0 : t = 0
    · subst t0
      exact (rd_n hM82 (by omega) (rd_n hM80 (by omega) ((hfs6 _ _ (by omega)).trans ((hfs5 _ _ (by omega)).trans ((hfs4 _ _ (by omega)).trans ((hfs3 _ _ (by omega)).trans ((hfs2 _ _ (by omega)).trans ((hfs1 _ _ (by omega)).trans ((hfs0 _ _ (by omega)).trans (rd_n hM56 (by omega) (rd_n hM54 (by omega) (rd_n hM52 (by omega) (rd_n hM50 (by omega) (rd_n hM47 (by omega) (rd_n hM45 (by omega) (rd_n hM43 (by omega) (rd_n hM41 (by omega) (hM0 k (by omega)))))))))))))))))))
    · exact (rd_n hM82 (by omega) (rd_n hM80 (by omega) ((hfs6 _ _ (by omega)).trans ((hfs5 _ _ (by omega)).trans ((hfs4 _ _ (by omega)).trans ((hfs3 _ _ (by omega)).trans ((hfs2 _ _ (by omega)).trans ((hfs1 _ _ (by omega)).trans ((hfs0 _ _ (by omega)).trans (rd_n hM56 (by omega) (rd_n hM54 (by omega) (rd_n hM52 (by omega) (rd_n hM50 (by omega) (rd_n hM47 (by omega) (rd_n hM45 (by omega) (rd_n hM43 (by omega) (rd_n hM41 (by omega) (hMa t k (by omega) z1))))))))))))))))))
  exact ⟨rfl, Sn18, M81, Ln18, P37, rfl, hR, init_abs e4 e5 e6 e7 e1 e2 e3 e44 ez, fun b z => ⟨hfS b z, hfP b z, fun k => (rd_n hM82 (by omega) (rd_n hM80 (by omega) ((hfs6 _ _ (by omega)).trans ((hfs5 _ _ (by omega)).trans ((hfs4 _ _ (by omega)).trans ((hfs3 _ _ (by omega)).trans ((hfs2 _ _ (by omega)).trans ((hfs1 _ _ (by omega)).trans ((hfs0 _ _ (by omega)).trans (rd_n hM56 (by omega) (rd_n hM54 (by omega) (rd_n hM52 (by omega) (rd_n hM50 (by omega) (rd_n hM47 (by omega) (rd_n hM45 (by omega) (rd_n hM43 (by omega) (rd_n hM41 (by omega) (hfM b k z))))))))))))))))))⟩⟩
end RINI
