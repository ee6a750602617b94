section RTX
variable {G : Gx} {sc : Nat → Nat → Prop} {n : Nat} {S : Nat → Nat × Nat} {M : Nat → Nat → Int32} {L : Nat → Nat → Int64} {P : Nat → Nat → Option Nat} {o : Nat}

set_option maxHeartbeats 4000000 in
set_option maxRecDepth 100000 in
theorem kp_text {A : Abs} (hA : rABS o M A) (hg2 : RNG2 A) (hR : RWF o S P) (hX : HX o sc) : KK G sc yX12_text cX12_text 2 (some .int) 43 0 0 [.ref o] (n, S, M, L, P) (zI o n S M P (zr_text A).1 (zr_text A).2) := by
  have hg : RNG A := hg2.1
  obtain ⟨t, ht1, ht6, ht, -⟩ := hg.2.2.2.2.2
  obtain ⟨m, hm160, hm⟩ := hg2.2.2.2.2.1
  have hti : i2n (A.1 10 0) = t := by rw [ht]; exact nI_clamp (by omega)
  have hmi : i2n (A.1 12 0) = m := by rw [hm]; exact nI_clamp (by omega)
  refine KK_of2 [(0, .ref o)] (by decide +kernel) (Nat.le_of_ble_eq_true rfl) rfl ?_
  refine JJ_aload_n dX12_text_0 rfl rfl ?_
  refine JJ_geti (v := nI t) (cis := [12]) (k := 3) fa_X12_76 (by decide) hR.1 rfl (hX.1 3) (hA.tc.trans ht) dX12_text_1 ?_
  refine JJ_bipush (v := 6) dX12_text_4 rfl ?_
  refine JJ_icmp_ne (tgt := 12) dX12_text_6 (by decide) (fun c1 => ?_) (fun c1 => ?_)
  · skip
    have ht5 : t < 6 := by have := (show t ≠ 6 from fun e => c1 (by rw [e]; rfl)); omega
    refine JJ_iconst (v := 0) dX12_text_12 rfl ?_
    refine JJ_istore_n (lv' := [(1, .int 0), (0, .ref o)]) dX12_text_13 rfl (by decide) rfl ?_
    have key : ∀ (d j : Nat) (Mx : Nat → Nat → Int32), j + d = m → (∀ x, x < j → Mx (o + 1) (160 * t + x) = M (o + 3) x) → (∀ b l, ¬ (b = o + 1 ∧ 160 * t ≤ l ∧ l < 160 * t + j) → Mx b l = M b l) → JJ G sc yX12_text cX12_text 2 (some .int) 43 0 0 (zI o n S M P (zr_text A).1 (zr_text A).2) 14 [(1, .int (nI j)), (0, .ref o)] [] (n, S, Mx, L, P) := by
      intro d
      induction d with
      | zero =>
        intro j Mx hj hz hx
        have hjm : j = m := by omega
        subst hjm
        refine JJ_iload_n dX12_text_14 rfl rfl ?_
        refine JJ_aload_n dX12_text_15 rfl rfl ?_
        refine JJ_geti (v := nI j) (cis := [12]) (k := 6) fa_X12_121 (by decide) hR.1 rfl (hX.1 6) ((hx _ _ (by omega)).trans (hA.tsz.trans hm)) dX12_text_16 ?_
        refine JJ_icmp_ge (tgt := 49) dX12_text_19 (by decide) (fun _ => ?_) (fun c2 => absurd (nI_le (by omega) (by omega)) c2)
        refine JJ_aload_n dX12_text_49 rfl rfl ?_
        refine JJ_getr (q := o + 2) (cis := [12]) (k := 2) fa_X12_17 (by decide) hR.1 rfl (hR.2 (2, 2, 20, 6) (by decide)).1 dX12_text_50 ?_
        refine JJ_aload_n dX12_text_53 rfl rfl ?_
        refine JJ_geti (v := nI t) (cis := [12]) (k := 3) fa_X12_76 (by decide) hR.1 rfl (hX.1 3) ((hx _ _ (by omega)).trans (hA.tc.trans ht)) dX12_text_54 ?_
        refine JJ_aload_n dX12_text_57 rfl rfl ?_
        refine JJ_geti (v := nI j) (cis := [12]) (k := 6) fa_X12_121 (by decide) hR.1 rfl (hX.1 6) ((hx _ _ (by omega)).trans (hA.tsz.trans hm)) dX12_text_58 ?_
        refine JJ_iastX (hR.2 (2, 2, 20, 6) (by decide)).2 (IX_nI (by omega) (by omega)) dX12_text_61 (fun M3 hM4 => ?_)
        refine JJ_aload_n dX12_text_62 rfl rfl ?_
        refine JJ_iconst (v := 0) dX12_text_63 rfl ?_
        refine JJ_puti (cis := [12]) (k := 6) fa_X12_121 (by decide) hR.1 rfl (fun r hr => by cases hr; exact ⟨rfl, by decide +kernel⟩) dX12_text_64 (fun M5 hM6 => ?_)
        refine JJ_aload_n dX12_text_67 rfl rfl ?_
        refine JJ_aload_n dX12_text_68 rfl rfl ?_
        refine JJ_geti (v := nI t) (cis := [12]) (k := 3) fa_X12_76 (by decide) hR.1 rfl (hX.1 3) (rd_n hM6 (by omega) (rd_n hM4 (by omega) ((hx _ _ (by omega)).trans (hA.tc.trans ht)))) dX12_text_69 ?_
        refine JJ_iconst (v := 0) dX12_text_72 rfl ?_
        have hb0 : ∀ i, i < j → TB o t M5 i = A.1 11 i := fun i hi => (rd_n hM6 (by omega) (rd_n hM4 (by omega) rfl)).trans ((hz i hi).trans (hA.tap (by rw [hmi]; exact hi)))
        have hB : ∀ i, i < j → 0 ≤ (TB o t M5 i).toInt ∧ (TB o t M5 i).toInt ≤ 255 := fun i hi => by rw [hb0 i hi]; exact hg2.2.2.2.2.2.2.2 i (by rw [hmi]; exact hi)
        refine JJ_callV (rest := []) hR.1 rfl rfl (kp_read (M := M5) (m := j) (r := t) (nm := fun k => M5 o (16 + k)) (wk := 0) ⟨by decide, rfl⟩ ht5 hm160 (rd_n hM6 (by omega) (rd_s hM4)) (fun i hi => (hB i hi).1) (fun _ _ => rfl) hR hX) (by omega) mi_X12_read lk_X12_236 rfl (Nat.le_of_ble_eq_true rfl) rfl rfl dX12_text_73 ?_
        intro v7 μ8 h9
        obtain ⟨x, Md, Ld, rfl, rfl, hfd, hld, hmd⟩ := h9
        refine JJ_r1 ?_
        rw [gText_cong hb0] at hmd
        have hk : ∀ b k, RO o b → ¬ (b = o ∧ k = 6) → ¬ (b = o ∧ 22 ≤ k ∧ k ≤ 30) → ¬ (b = o + 1 ∧ 160 * t ≤ k ∧ k < 160 * t + j) → ¬ (b = o + 2 ∧ k = t) → Md b k = M b k := fun b k z0 z1 z2 z3 z4 => (hfd b k (fun q => z2 q)).trans (rd_n hM6 z1 (rd_n hM4 z4 (hx b k z3)))
        have hfar : ∀ b k, ¬ RO o b → Md b k = M b k := fun b k z => (hfd b k (fun q => z (by unfold PDR at q; unfold RO; omega))).trans (rd_n hM6 (fun e => z (by unfold RO; omega)) (rd_n hM4 (fun e => z (by unfold RO; omega)) (hx b k (fun e => z (by unfold RO; omega)))))
        have h6 : Md o 6 = 0 := (hfd _ _ (by unfold PDR; omega)).trans (rd_s hM6)
        have hu : zr_text A = (match gText (A.1 11) j with | .inl q => (-100 - nI q, zUp A 12 0 0) | .inr (_, d0, d1, d2) => (nI t, ((zUp (zUp A 12 0 0) 10 0 (nI (t + 1))).1, fun i => if i = t then zEf d0 d1 d2 else A.2 i))) := by
          unfold zr_text
          rw [if_neg (by rw [hti]; omega), hmi, hti]
          rfl
        rcases hg1 : gText (A.1 11) j with q | ⟨cs, d0, d1, d2⟩
        · skip
          rw [hg1] at hmd hu
          obtain ⟨b29, b30⟩ : Md o 29 = 1 ∧ Md o 30 = nI q := hmd
          refine JJ_istore_n (lv' := [(1, .int x), (0, .ref o)]) dX12_text_76 rfl (by decide) rfl ?_
          refine JJ_aload_n dX12_text_77 rfl rfl ?_
          refine JJ_geti (v := 1) (cis := [12]) (k := 29) fa_X12_157 (by decide) hR.1 rfl (hX.1 29) b29 dX12_text_78 ?_
          refine JJ_if_eq (tgt := 92) dX12_text_81 (by decide) (fun c10 => absurd c10 (by decide)) (fun _ => ?_)
          refine JJ_bipush (v := (-100)) dX12_text_84 rfl ?_
          refine JJ_aload_n dX12_text_86 rfl rfl ?_
          refine JJ_geti (v := nI q) (cis := [12]) (k := 30) fa_X12_161 (by decide) hR.1 rfl (hX.1 30) b30 dX12_text_87 ?_
          refine JJ_isub dX12_text_90 ?_
          refine JJ_iret dX12_text_91 rfl ?_
          have e0 : zr_text A = (-100 - nI q, zUp A 12 0 0) := hu
          exact zI_r (by rw [e0]) (by rw [e0]; exact text_abs0 hA hm160 hti h6 hk) hfar
        · skip
          rw [hg1] at hmd hu
          have b29 : Md o 29 = 0 := hmd.1
          refine JJ_istore_n (lv' := [(1, .int x), (0, .ref o)]) dX12_text_76 rfl (by decide) rfl ?_
          refine JJ_aload_n dX12_text_77 rfl rfl ?_
          refine JJ_geti (v := 0) (cis := [12]) (k := 29) fa_X12_157 (by decide) hR.1 rfl (hX.1 29) b29 dX12_text_78 ?_
          refine JJ_if_eq (tgt := 92) dX12_text_81 (by decide) (fun _ => ?_) (fun c11 => absurd (by decide) c11)
          refine JJ_aload_n dX12_text_92 rfl rfl ?_
          refine JJ_dup dX12_text_93 rfl ?_
          refine JJ_geti (v := nI t) (cis := [12]) (k := 3) fa_X12_76 (by decide) hR.1 rfl (hX.1 3) ((hk _ _ (by unfold RO; omega) (by omega) (by omega) (by omega) (by omega)).trans (hA.tc.trans ht)) dX12_text_94 ?_
          refine JJ_iconst (v := 1) dX12_text_97 rfl ?_
          refine JJ_iadd dX12_text_98 ?_
          refine JJ_eqi (x2 := nI (t + 1)) (nI_add (t) (1)) ?_
          refine JJ_puti (cis := [12]) (k := 3) fa_X12_76 (by decide) hR.1 rfl (fun r hr => by cases hr; exact ⟨rfl, by decide +kernel⟩) dX12_text_99 (fun M12 hM13 => ?_)
          refine JJ_aload_n dX12_text_102 rfl rfl ?_
          refine JJ_geti (v := nI (t + 1)) (cis := [12]) (k := 3) fa_X12_76 (by decide) hR.1 rfl (hX.1 3) (rd_s hM13) dX12_text_103 ?_
          refine JJ_iconst (v := 1) dX12_text_106 rfl ?_
          refine JJ_isub dX12_text_107 ?_
          refine JJ_eqi (x2 := nI t) (pk_sub (a := t + 1) (b := 1) (by omega)) ?_
          refine JJ_iret dX12_text_108 rfl ?_
          have e0 : zr_text A = (nI t, ((zUp (zUp A 12 0 0) 10 0 (nI (t + 1))).1, fun i => if i = t then zEf d0 d1 d2 else A.2 i)) := hu
          have h2t : Md (o + 2) t = nI j := (hfd _ _ (by unfold PDR; omega)).trans (rd_n hM6 (by omega) (rd_s hM4))
          have hb1 : ∀ i, i < j → TB o t Md i = A.1 11 i := fun i hi => (hfd _ _ (by unfold PDR; omega)).trans (hb0 i hi)
          have hE : TXT (TB o t Md) j (zEf d0 d1 d2) := TXT_say (fun i hi => by rw [hb1 i hi]; exact hg2.2.2.2.2.2.2.2 i (by rw [hmi]; exact hi)) ((gText_cong hb1).trans hg1)
          exact zI_r (by rw [e0]) (by rw [e0]; exact text_abs1 hA hm160 ht5 hti h6 hk h2t hE hM13) (fun b k z => (rd_n hM13 (fun e => z (by unfold RO; omega)) rfl).trans (hfar b k z))
      | succ d ih =>
        intro j Mx hj hz hx
        refine JJ_iload_n dX12_text_14 rfl rfl ?_
        refine JJ_aload_n dX12_text_15 rfl rfl ?_
        refine JJ_geti (v := nI m) (cis := [12]) (k := 6) fa_X12_121 (by decide) hR.1 rfl (hX.1 6) ((hx _ _ (by omega)).trans (hA.tsz.trans hm)) dX12_text_16 ?_
        refine JJ_icmp_ge (tgt := 49) dX12_text_19 (by decide) (fun c14 => absurd c14 (nI_ge (by omega) (by omega))) (fun _ => ?_)
        refine JJ_aload_n dX12_text_22 rfl rfl ?_
        refine JJ_getr (q := o + 1) (cis := [12]) (k := 1) fa_X12_13 (by decide) hR.1 rfl (hR.2 (1, 1, 20, 960) (by decide)).1 dX12_text_23 ?_
        refine JJ_sipush (v := 160) dX12_text_26 rfl ?_
        refine JJ_aload_n dX12_text_29 rfl rfl ?_
        refine JJ_geti (v := nI t) (cis := [12]) (k := 3) fa_X12_76 (by decide) hR.1 rfl (hX.1 3) ((hx _ _ (by omega)).trans (hA.tc.trans ht)) dX12_text_30 ?_
        refine JJ_imul dX12_text_33 ?_
        refine JJ_eqi (x2 := nI (160 * t)) (pk_mul (160) (t)) ?_
        refine JJ_iload_n dX12_text_34 rfl rfl ?_
        refine JJ_iadd dX12_text_35 ?_
        refine JJ_eqi (x2 := nI (160 * t + j)) (nI_add (160 * t) (j)) ?_
        refine JJ_aload_n dX12_text_36 rfl rfl ?_
        refine JJ_getr (q := o + 3) (cis := [12]) (k := 5) fa_X12_20 (by decide) hR.1 rfl (hR.2 (5, 3, 20, 160) (by decide)).1 dX12_text_37 ?_
        refine JJ_iload_n dX12_text_40 rfl rfl ?_
        refine JJ_ialdX (v := M (o + 3) j) (hR.2 (5, 3, 20, 160) (by decide)).2 (IX_nI (by omega) (by omega)) (hX.2 3 _ (by decide) (by decide)) (hx _ _ (by omega)) dX12_text_41 ?_
        refine JJ_iastX (hR.2 (1, 1, 20, 960) (by decide)).2 (IX_nI (by omega) (by omega)) dX12_text_42 (fun M15 hM16 => ?_)
        refine JJ_iinc (v := nI (j + 1)) (lv' := [(1, .int (nI (j + 1))), (0, .ref o)]) dX12_text_43 rfl (nI_add (j) 1) (by decide) rfl ?_
        refine JJ_goto (tgt := 14) dX12_text_46 (by decide) ?_
        refine JJ.pick [0, 1] rfl ?_
        refine ih (j + 1) M15 (by omega) (fun x hx1 => ?_) (fun b l z => (rd_n hM16 (by omega) rfl).trans (hx b l (by omega)))
        by_cases ej : x = j
        · rw [ej]; exact rd_s hM16
        · exact (rd_n hM16 (by omega) rfl).trans (hz x (by omega))
    refine JJ.pick [0, 1] rfl ?_
    exact key m 0 M (by omega) (fun x hx1 => by omega) (fun _ _ _ => rfl)
  · skip
    refine JJ_bipush (v := (-4)) dX12_text_9 rfl ?_
    refine JJ_iret dX12_text_11 rfl ?_
    have e0 : zr_text A = (-4, A) := if_pos (by rw [hti]; exact (nI_eq (a := t) (b := 6) (by omega) (by omega)).mp c1)
    exact zI_r (by rw [e0]) (by rw [e0]; exact hA) (fun _ _ _ => rfl)
/-- what the state is, of a memory that is like one that holds it -/
theorem rABS_eqv {M' : Nat → Nat → Int32} {A : Abs} (hA : rABS o M A) (hN : HSR o sc) (h1 : ∀ a k, ¬ sc a k → M' a k = M a k) : rABS o M' A := by
  have ka : ∀ t, 0 < t → t < 19 → M' (o + t) = M (o + t) := fun t t0 t1 => funext fun k => h1 _ _ (hN.2.1 t k t0 t1)
  have ko : ∀ k, k < 16 ∨ 30 < k → M' o k = M o k := fun k hk => h1 _ _ (hN.1 k hk)
  unfold rABS rABSg at *
  rw [ka 1 (by decide) (by decide), ka 2 (by decide) (by decide), ka 3 (by decide) (by decide), ka 4 (by decide) (by decide), ka 5 (by decide) (by decide), ka 6 (by decide) (by decide), ka 7 (by decide) (by decide), ka 8 (by decide) (by decide), ka 9 (by decide) (by decide), ka 10 (by decide) (by decide), ka 13 (by decide) (by decide), ka 14 (by decide) (by decide), ka 15 (by decide) (by decide), ka 16 (by decide) (by decide), ka 17 (by decide) (by decide), ka 18 (by decide) (by decide), ko 11 (by decide), ko 15 (by decide), ko 4 (by decide), ko 3 (by decide), ko 6 (by decide), ko 44 (by decide), ko 45 (by decide), ko 46 (by decide), ko 33 (by decide)]
  exact hA
theorem kr_text {A : Abs} (hA : rABS o M A) (hg2 : RNG2 A) (hR : RWF o S P) (hN : HSR o sc) : KK G sc yX12_text cX12_text 2 (some .int) 43 0 0 [.ref o] (n, S, M, L, P) (zI o n S M P (zr_text A).1 (zr_text A).2) := by
  refine KK_more (sc := fun _ _ => False) (fun _ _ h => h.elim) (fun μ' hq => ?_)
  obtain ⟨M', L', rfl, h1, h2⟩ := hq.parts
  refine KK_mono (kp_text (rABS_eqv hA hN h1) hg2 hR HX_no) ?_
  intro v μ ⟨hv, M'', L'', hμ, hr, hf⟩
  subst hμ
  classical
  refine ⟨(n, S, fun b k => if RO o b then M'' b k else M b k, L'', P), EQV.mk (fun a k hz => ?_) (fun _ _ _ => rfl), hv, _, L'', rfl, ?_, fun b k z => if_neg z⟩
  · show M'' a k = if RO o a then M'' a k else M a k
    split
    · rfl
    · exact (hf a k (by assumption)).trans (h1 a k hz)
  · have ka : ∀ t, t < 19 → (fun b k => if RO o b then M'' b k else M b k) (o + t) = M'' (o + t) := fun t ht => funext fun k => if_pos (by unfold RO; omega)
    have k0 : (fun b k => if RO o b then M'' b k else M b k) o = M'' o := ka 0 (by decide)
    unfold rABS rABSg at *
    rw [ka 1 (by decide), ka 2 (by decide), ka 3 (by decide), ka 4 (by decide), ka 5 (by decide), ka 6 (by decide), ka 7 (by decide), ka 8 (by decide), ka 9 (by decide), ka 10 (by decide), ka 13 (by decide), ka 14 (by decide), ka 15 (by decide), ka 16 (by decide), ka 17 (by decide), ka 18 (by decide), k0]
    exact hr
end RTX
