section C3
variable {G : Gx} {sc : Nat → Nat → Prop} {n : Nat} {S : Nat → Nat × Nat} {M : Nat → Nat → Int32} {L : Nat → Nat → Int64} {P : Nat → Nat → Option Nat} {x : Nat}

set_option maxHeartbeats 4000000 in
set_option maxRecDepth 100000 in
theorem kc_join {op p q : Int32} : KK G sc yX10_join cX10_join 3 (some .int) 0 0 0 [.int op, .int p, .int q] (n, S, M, L, P) (ansI (s_join op p q) (n, S, M, L, P)) := by
  refine KK_of2 [(0, .int op), (1, .int p), (2, .int q)] (by decide +kernel) (Nat.le_of_ble_eq_true rfl) rfl ?_
  by_cases h0 : op = -9
  · skip
    subst h0
    have e : s_join (-9) p q = b2 (¬ p = 0 ∨ ¬ q = 0) := (if_pos rfl)
    rw [e]
    refine JJ_iload_n dX10_join_0 rfl rfl ?_
    refine JJ_tabIn (tgt := 40) (-9) dX10_join_1 rfl (by decide) rfl (by decide) ?_
    refine JJ_iload_n dX10_join_40 rfl rfl ?_
    refine JJ_if_ne (tgt := 48) dX10_join_41 (by decide) (fun c1 => ?_) (fun c1 => ?_)
    · skip
      refine JJ_iconst (v := 1) dX10_join_48 rfl ?_
      refine JJ_goto (tgt := 53) dX10_join_49 (by decide) ?_
      refine JJ_iret dX10_join_53 rfl ?_
      exact ans_i (b2_t (Or.inl c1)).symm
    · skip
      refine JJ_iload_n dX10_join_44 rfl rfl ?_
      refine JJ_if_eq (tgt := 52) dX10_join_45 (by decide) (fun c2 => ?_) (fun c2 => ?_)
      · skip
        refine JJ_iconst (v := 0) dX10_join_52 rfl ?_
        refine JJ_iret dX10_join_53 rfl ?_
        exact ans_i (b2_f (fun z => z.elim (fun y => y c1) (fun y => y c2))).symm
      · skip
        refine JJ_iconst (v := 1) dX10_join_48 rfl ?_
        refine JJ_goto (tgt := 53) dX10_join_49 (by decide) ?_
        refine JJ_iret dX10_join_53 rfl ?_
        exact ans_i (b2_t (Or.inr c2)).symm
  by_cases h1 : op = -10
  · skip
    subst h1
    have e : s_join (-10) p q = b2 (¬ p = 0 ∧ ¬ q = 0) := ((if_neg (by decide)).trans (if_pos rfl))
    rw [e]
    refine JJ_iload_n dX10_join_0 rfl rfl ?_
    refine JJ_tabIn (tgt := 54) (-10) dX10_join_1 rfl (by decide) rfl (by decide) ?_
    refine JJ_iload_n dX10_join_54 rfl rfl ?_
    refine JJ_if_eq (tgt := 66) dX10_join_55 (by decide) (fun c3 => ?_) (fun c3 => ?_)
    · skip
      refine JJ_iconst (v := 0) dX10_join_66 rfl ?_
      refine JJ_iret dX10_join_67 rfl ?_
      exact ans_i (b2_f (fun z => z.1 c3)).symm
    · skip
      refine JJ_iload_n dX10_join_58 rfl rfl ?_
      refine JJ_if_eq (tgt := 66) dX10_join_59 (by decide) (fun c4 => ?_) (fun c4 => ?_)
      · skip
        refine JJ_iconst (v := 0) dX10_join_66 rfl ?_
        refine JJ_iret dX10_join_67 rfl ?_
        exact ans_i (b2_f (fun z => z.2 c4)).symm
      · skip
        refine JJ_iconst (v := 1) dX10_join_62 rfl ?_
        refine JJ_goto (tgt := 67) dX10_join_63 (by decide) ?_
        refine JJ_iret dX10_join_67 rfl ?_
        exact ans_i (b2_t ⟨c3, c4⟩).symm
  by_cases h2 : op = -11
  · skip
    subst h2
    have e : s_join (-11) p q = b2 (p < q) := ((if_neg (by decide)).trans ((if_neg (by decide)).trans (if_pos rfl)))
    rw [e]
    refine JJ_iload_n dX10_join_0 rfl rfl ?_
    refine JJ_tabIn (tgt := 68) (-11) dX10_join_1 rfl (by decide) rfl (by decide) ?_
    refine JJ_iload_n dX10_join_68 rfl rfl ?_
    refine JJ_iload_n dX10_join_69 rfl rfl ?_
    refine JJ_icmp_ge (tgt := 77) dX10_join_70 (by decide) (fun c5 => ?_) (fun c5 => ?_)
    · skip
      refine JJ_iconst (v := 0) dX10_join_77 rfl ?_
      refine JJ_iret dX10_join_78 rfl ?_
      exact ans_i (b2_f (Int32.not_lt.mpr c5)).symm
    · skip
      refine JJ_iconst (v := 1) dX10_join_73 rfl ?_
      refine JJ_goto (tgt := 78) dX10_join_74 (by decide) ?_
      refine JJ_iret dX10_join_78 rfl ?_
      exact ans_i (b2_t (Int32.not_le.mp c5)).symm
  by_cases h3 : op = -12
  · skip
    subst h3
    have e : s_join (-12) p q = b2 (p = q) := ((if_neg (by decide)).trans ((if_neg (by decide)).trans ((if_neg (by decide)).trans (if_pos rfl))))
    rw [e]
    refine JJ_iload_n dX10_join_0 rfl rfl ?_
    refine JJ_tabIn (tgt := 79) (-12) dX10_join_1 rfl (by decide) rfl (by decide) ?_
    refine JJ_iload_n dX10_join_79 rfl rfl ?_
    refine JJ_iload_n dX10_join_80 rfl rfl ?_
    refine JJ_icmp_ne (tgt := 88) dX10_join_81 (by decide) (fun c6 => ?_) (fun c6 => ?_)
    · skip
      refine JJ_iconst (v := 0) dX10_join_88 rfl ?_
      refine JJ_iret dX10_join_89 rfl ?_
      exact ans_i (b2_f c6).symm
    · skip
      refine JJ_iconst (v := 1) dX10_join_84 rfl ?_
      refine JJ_goto (tgt := 89) dX10_join_85 (by decide) ?_
      refine JJ_iret dX10_join_89 rfl ?_
      exact ans_i (b2_t c6).symm
  by_cases h4 : op = -13
  · skip
    subst h4
    have e : s_join (-13) p q = p + q := ((if_neg (by decide)).trans ((if_neg (by decide)).trans ((if_neg (by decide)).trans ((if_neg (by decide)).trans (if_pos rfl)))))
    rw [e]
    refine JJ_iload_n dX10_join_0 rfl rfl ?_
    refine JJ_tabIn (tgt := 90) (-13) dX10_join_1 rfl (by decide) rfl (by decide) ?_
    refine JJ_iload_n dX10_join_90 rfl rfl ?_
    refine JJ_iload_n dX10_join_91 rfl rfl ?_
    refine JJ_iadd dX10_join_92 ?_
    refine JJ_iret dX10_join_93 rfl ?_
    exact ans_i rfl
  by_cases h5 : op = -14
  · skip
    subst h5
    have e : s_join (-14) p q = p - q := ((if_neg (by decide)).trans ((if_neg (by decide)).trans ((if_neg (by decide)).trans ((if_neg (by decide)).trans ((if_neg (by decide)).trans (if_pos rfl))))))
    rw [e]
    refine JJ_iload_n dX10_join_0 rfl rfl ?_
    refine JJ_tabIn (tgt := 94) (-14) dX10_join_1 rfl (by decide) rfl (by decide) ?_
    refine JJ_iload_n dX10_join_94 rfl rfl ?_
    refine JJ_iload_n dX10_join_95 rfl rfl ?_
    refine JJ_isub dX10_join_96 ?_
    refine JJ_iret dX10_join_97 rfl ?_
    exact ans_i rfl
  have e : s_join op p q = p * q := ((if_neg h0).trans ((if_neg h1).trans ((if_neg h2).trans ((if_neg h3).trans ((if_neg h4).trans (if_neg h5))))))
  rw [e]
  refine JJ_iload_n dX10_join_0 rfl rfl ?_
  refine JJ_tabOut (tgt := 98) dX10_join_1 (by have y0 := lv_neT h0 (a := -9) rfl; have y1 := lv_neT h1 (a := -10) rfl; have y2 := lv_neT h2 (a := -11) rfl; have y3 := lv_neT h3 (a := -12) rfl; have y4 := lv_neT h4 (a := -13) rfl; have y5 := lv_neT h5 (a := -14) rfl; omega) (by decide) ?_
  refine JJ_iload_n dX10_join_98 rfl rfl ?_
  refine JJ_iload_n dX10_join_99 rfl rfl ?_
  refine JJ_imul dX10_join_100 ?_
  refine JJ_iret dX10_join_101 rfl ?_
  exact ans_i rfl
/-- the stack's row holds st, its top last -/
def SR (t : Nat) (M : Nat → Nat → Int32) (st : List Int32) : Prop := ∀ k, k < st.length → M (t + 2) (st.length - 1 - k) = st.getD k 0
theorem SR_up {t : Nat} {M M1 : Nat → Nat → Int32} {st r : List Int32} {v : Int32} (h : SR t M st) (hr : r.length ≤ st.length) (hg : ∀ k, k < r.length → r.getD k 0 = st.getD (k + (st.length - r.length)) 0) (h1 : M1 = up2 M (t + 2) r.length v) : SR t M1 (v :: r) := by
  intro k hk
  have hk' : k < r.length + 1 := hk
  show M1 (t + 2) (r.length + 1 - 1 - k) = _
  rcases Nat.eq_zero_or_pos k with rfl | hp
  · rw [h1, show r.length + 1 - 1 - 0 = r.length by omega]
    exact up2_s
  · obtain ⟨i, rfl⟩ : ∃ i, k = i + 1 := ⟨k - 1, by omega⟩
    rw [h1, up2_n (by omega)]
    have e := h (i + (st.length - r.length)) (by omega)
    rw [show st.length - 1 - (i + (st.length - r.length)) = r.length + 1 - 1 - (i + 1) by omega] at e
    rw [e]
    exact (hg i (by omega)).symm
/-- a text's shape -/
def TSH (t : Nat) (S : Nat → Nat × Nat) (P : Nat → Nat → Option Nat) : Prop := (S t).1 = 11 ∧ S (t + 1) = (20, 160) ∧ S (t + 2) = (20, 160) ∧ S (t + 3) = (20, 6) ∧ S (t + 4) = (20, 3) ∧ P t 1 = some (t + 1) ∧ P t 2 = some (t + 2) ∧ P t 3 = some (t + 3) ∧ P t 4 = some (t + 4)
/-- here nothing of the text is scratch -/
def HT (t : Nat) (sc : Nat → Nat → Prop) : Prop := ∀ b k, t ≤ b ∧ b < t + 5 → ¬ sc b k
theorem nI_nn {k : Nat} (h : k < 1000) : ¬ nI k < 0 := nI_pos (by omega)
theorem nI_lt1 {k m : Nat} (h : k < m) (hm : m < 100000) : nI k < nI m := by
  rw [i_lt, nI_toInt (by omega), nI_toInt (by omega)]
  omega
theorem nI_n1 {k : Nat} (h : k < 1000) : ¬ nI (k + 1) < 1 := by
  rw [i_lt, nI_toInt (by omega)]
  show ¬ _ < (1 : Int)
  omega
theorem nI_n2 {k : Nat} (h : k < 1000) : ¬ nI (k + 1 + 1) < 2 := by
  rw [i_lt, nI_toInt (by omega)]
  show ¬ _ < (2 : Int)
  omega
theorem nI_n160 {k : Nat} (h : k ≤ 160) : ¬ 160 < nI k := by
  rw [i_lt, nI_toInt (by omega)]
  show ¬ (160 : Int) < _
  omega
theorem nm_ix {op : Int32} (h6 : -6 ≤ op) (h0 : ¬ 0 ≤ op) : ∃ q, q < 6 ∧ -1 - op = nI q := by
  rw [i_le, show (-6 : Int32).toInt = -6 from rfl] at h6
  rw [i_le, show (0 : Int32).toInt = 0 from rfl] at h0
  refine ⟨(-1 - op.toInt).toNat, by omega, ?_⟩
  obtain ⟨k, h1, h2, h3⟩ := i_sub (-1) op
  rw [show (-1 : Int32).toInt = -1 from rfl] at h1
  rw [i_eq, nI_toInt (by omega)]
  omega
set_option maxHeartbeats 4000000 in
set_option maxRecDepth 100000 in
theorem kc_work {t : Nat} {nm : Nms} {st : List Int32} {op : Int32} (hl : st.length < 160) (hs : SR t M st) (hn : ∀ k, k < 6 → M (t + 3) k = nm k) (ht : TSH t S P) (hx : HT t sc) : KK G sc yX10_work cX10_work 3 (some .int) 1 0 0 [.ref t, .int op, .int (nI st.length)] (n, S, M, L, P) (fun v μ => v = some (.int (nI (crun1 nm st op).length)) ∧ ∃ M', μ = (n, S, M', L, P) ∧ SR t M' (crun1 nm st op) ∧ ∀ b k, b ≠ t + 2 → M' b k = M b k) := by
  refine KK_of2 [(0, .ref t), (1, .int op), (2, .int (nI st.length))] (by decide +kernel) (Nat.le_of_ble_eq_true rfl) rfl ?_
  by_cases h6 : -6 ≤ op
  · skip
    by_cases h0 : 0 ≤ op
    · skip
      have e : crun1 nm st op = op :: st := (if_pos h6).trans (by rw [if_pos h0])
      rw [e]
      refine JJ_iload_n dX10_work_0 rfl rfl ?_
      refine JJ_bipush (v := (-6)) dX10_work_1 rfl ?_
      refine JJ_icmp_lt (tgt := 47) dX10_work_3 (by decide) (fun c1 => absurd c1 (Int32.not_lt.mpr h6)) (fun _ => ?_)
      refine JJ_iload_n dX10_work_6 rfl rfl ?_
      refine JJ_if_lt (tgt := 19) dX10_work_7 (by decide) (fun c2 => absurd c2 (nI_nn (by omega))) (fun _ => ?_)
      refine JJ_iload_n dX10_work_10 rfl rfl ?_
      refine JJ_aload_n dX10_work_11 rfl rfl ?_
      refine JJ_getr (q := t + 2) (cis := [10]) (k := 2) fa_X10_15 (by decide) ht.1 rfl ht.2.2.2.2.2.2.1 dX10_work_12 ?_
      refine JJ_alen (t := 0) ht.2.2.1 (by decide) dX10_work_15 ?_
      refine JJ_icmp_lt (tgt := 21) dX10_work_16 (by decide) (fun _ => ?_) (fun c3 => absurd (nI_lt1 (by omega) (by omega)) c3)
      refine JJ_aload_n dX10_work_21 rfl rfl ?_
      refine JJ_getr (q := t + 2) (cis := [10]) (k := 2) fa_X10_15 (by decide) ht.1 rfl ht.2.2.2.2.2.2.1 dX10_work_22 ?_
      refine JJ_iload_n dX10_work_25 rfl rfl ?_
      refine JJ_iload_n dX10_work_26 rfl rfl ?_
      refine JJ_if_lt (tgt := 34) dX10_work_27 (by decide) (fun c4 => absurd c4 (Int32.not_lt.mpr h0)) (fun _ => ?_)
      refine JJ_iload_n dX10_work_30 rfl rfl ?_
      refine JJ_goto (tgt := 42) dX10_work_31 (by decide) ?_
      refine JJ_iastX ht.2.2.1 (IX_nI (by omega) (by omega)) dX10_work_42 (fun M5 hM6 => ?_)
      refine JJ_iload_n dX10_work_43 rfl rfl ?_
      refine JJ_iconst (v := 1) dX10_work_44 rfl ?_
      refine JJ_iadd dX10_work_45 ?_
      refine JJ_iret dX10_work_46 rfl ?_
      exact ⟨congrArg (fun v => some (Value.int v)) (nI_add st.length 1), M5, rfl, SR_up hs (Nat.le_refl _) (fun k hk => by rw [Nat.sub_self]; rfl) hM6, fun b k z => rd_n hM6 (by omega) rfl⟩
    · skip
      have e : crun1 nm st op = nm (-1 - op).toNatClampNeg :: st := (if_pos h6).trans (by rw [if_neg h0])
      rw [e]
      obtain ⟨q, hq, eq⟩ : ∃ q, q < 6 ∧ -1 - op = nI q := nm_ix h6 h0
      rw [eq, show (nI q).toNatClampNeg = q from nI_clamp (by omega)]
      refine JJ_iload_n dX10_work_0 rfl rfl ?_
      refine JJ_bipush (v := (-6)) dX10_work_1 rfl ?_
      refine JJ_icmp_lt (tgt := 47) dX10_work_3 (by decide) (fun c7 => absurd c7 (Int32.not_lt.mpr h6)) (fun _ => ?_)
      refine JJ_iload_n dX10_work_6 rfl rfl ?_
      refine JJ_if_lt (tgt := 19) dX10_work_7 (by decide) (fun c8 => absurd c8 (nI_nn (by omega))) (fun _ => ?_)
      refine JJ_iload_n dX10_work_10 rfl rfl ?_
      refine JJ_aload_n dX10_work_11 rfl rfl ?_
      refine JJ_getr (q := t + 2) (cis := [10]) (k := 2) fa_X10_15 (by decide) ht.1 rfl ht.2.2.2.2.2.2.1 dX10_work_12 ?_
      refine JJ_alen (t := 0) ht.2.2.1 (by decide) dX10_work_15 ?_
      refine JJ_icmp_lt (tgt := 21) dX10_work_16 (by decide) (fun _ => ?_) (fun c9 => absurd (nI_lt1 (by omega) (by omega)) c9)
      refine JJ_aload_n dX10_work_21 rfl rfl ?_
      refine JJ_getr (q := t + 2) (cis := [10]) (k := 2) fa_X10_15 (by decide) ht.1 rfl ht.2.2.2.2.2.2.1 dX10_work_22 ?_
      refine JJ_iload_n dX10_work_25 rfl rfl ?_
      refine JJ_iload_n dX10_work_26 rfl rfl ?_
      refine JJ_if_lt (tgt := 34) dX10_work_27 (by decide) (fun _ => ?_) (fun c10 => absurd (Int32.not_le.mp h0) c10)
      refine JJ_aload_n dX10_work_34 rfl rfl ?_
      refine JJ_getr (q := t + 3) (cis := [10]) (k := 3) fa_X10_18 (by decide) ht.1 rfl ht.2.2.2.2.2.2.2.1 dX10_work_35 ?_
      refine JJ_iconst (v := (-1)) dX10_work_38 rfl ?_
      refine JJ_iload_n dX10_work_39 rfl rfl ?_
      refine JJ_isub dX10_work_40 ?_
      refine JJ_eqi (x2 := nI q) eq ?_
      refine JJ_ialdX (v := nm q) ht.2.2.2.1 (IX_nI (by omega) (by omega)) (hx _ _ (by omega)) (hn q hq) dX10_work_41 ?_
      refine JJ_iastX ht.2.2.1 (IX_nI (by omega) (by omega)) dX10_work_42 (fun M11 hM12 => ?_)
      refine JJ_iload_n dX10_work_43 rfl rfl ?_
      refine JJ_iconst (v := 1) dX10_work_44 rfl ?_
      refine JJ_iadd dX10_work_45 ?_
      refine JJ_iret dX10_work_46 rfl ?_
      exact ⟨congrArg (fun v => some (Value.int v)) (nI_add st.length 1), M11, rfl, SR_up hs (Nat.le_refl _) (fun k hk => by rw [Nat.sub_self]; rfl) hM12, fun b k z => rd_n hM12 (by omega) rfl⟩
  by_cases h8 : -8 ≤ op
  · skip
    match st, hl, hs with
    | [], hl, hs =>
      have e : crun1 nm [] op = [] := (if_neg h6).trans (if_pos h8)
      rw [e]
      refine JJ_iload_n dX10_work_0 rfl rfl ?_
      refine JJ_bipush (v := (-6)) dX10_work_1 rfl ?_
      refine JJ_icmp_lt (tgt := 47) dX10_work_3 (by decide) (fun _ => ?_) (fun c13 => absurd (Int32.not_le.mp h6) c13)
      refine JJ_iload_n dX10_work_47 rfl rfl ?_
      refine JJ_bipush (v := (-8)) dX10_work_48 rfl ?_
      refine JJ_icmp_lt (tgt := 111) dX10_work_50 (by decide) (fun c14 => absurd c14 (Int32.not_lt.mpr h8)) (fun _ => ?_)
      refine JJ_iload_n dX10_work_53 rfl rfl ?_
      refine JJ_iconst (v := 1) dX10_work_54 rfl ?_
      refine JJ_icmp_lt (tgt := 109) dX10_work_55 (by decide) (fun _ => ?_) (fun c15 => absurd (by decide) c15)
      refine JJ_iload_n dX10_work_109 rfl rfl ?_
      refine JJ_iret dX10_work_110 rfl ?_
      exact ⟨rfl, M, rfl, hs, fun _ _ _ => rfl⟩
    | p :: r, hl, hs =>
      have hl : r.length + 1 < 160 := hl
      have hp : M (t + 2) r.length = p := hs 0 (Nat.succ_pos _)
      show JJ G sc yX10_work cX10_work 3 (some .int) 1 0 0 _ 0 [(0, .ref t), (1, .int op), (2, .int (nI (r.length + 1)))] [] (n, S, M, L, P)
      by_cases hm : op = -8
      · skip
        subst hm
        have e : crun1 nm (p :: r) (-8) = - p :: r := (if_neg (by decide)).trans ((if_pos (by decide)).trans (by show (if (-8) = -8 then - p else b2 (p = 0)) :: r = _; rw [if_pos rfl]))
        rw [e]
        refine JJ_iload_n dX10_work_0 rfl rfl ?_
        refine JJ_bipush (v := (-6)) dX10_work_1 rfl ?_
        refine JJ_icmp_lt (tgt := 47) dX10_work_3 (by decide) (fun _ => ?_) (fun c16 => absurd (by decide) c16)
        refine JJ_iload_n dX10_work_47 rfl rfl ?_
        refine JJ_bipush (v := (-8)) dX10_work_48 rfl ?_
        refine JJ_icmp_lt (tgt := 111) dX10_work_50 (by decide) (fun c17 => absurd c17 (by decide)) (fun _ => ?_)
        refine JJ_iload_n dX10_work_53 rfl rfl ?_
        refine JJ_iconst (v := 1) dX10_work_54 rfl ?_
        refine JJ_icmp_lt (tgt := 109) dX10_work_55 (by decide) (fun c18 => absurd c18 (nI_n1 (by omega))) (fun _ => ?_)
        refine JJ_iload_n dX10_work_58 rfl rfl ?_
        refine JJ_aload_n dX10_work_59 rfl rfl ?_
        refine JJ_getr (q := t + 2) (cis := [10]) (k := 2) fa_X10_15 (by decide) ht.1 rfl ht.2.2.2.2.2.2.1 dX10_work_60 ?_
        refine JJ_alen (t := 0) ht.2.2.1 (by decide) dX10_work_63 ?_
        refine JJ_icmp_gt (tgt := 109) dX10_work_64 (by decide) (fun c19 => absurd c19 (nI_n160 (by omega))) (fun _ => ?_)
        refine JJ_aload_n dX10_work_67 rfl rfl ?_
        refine JJ_getr (q := t + 2) (cis := [10]) (k := 2) fa_X10_15 (by decide) ht.1 rfl ht.2.2.2.2.2.2.1 dX10_work_68 ?_
        refine JJ_iload_n dX10_work_71 rfl rfl ?_
        refine JJ_iconst (v := 1) dX10_work_72 rfl ?_
        refine JJ_isub dX10_work_73 ?_
        refine JJ_eqi (x2 := nI r.length) (pk_sub (a := r.length + 1) (b := 1) (by omega)) ?_
        refine JJ_iload_n dX10_work_74 rfl rfl ?_
        refine JJ_bipush (v := (-8)) dX10_work_75 rfl ?_
        refine JJ_icmp_ne (tgt := 92) dX10_work_77 (by decide) (fun c20 => absurd (by decide) c20) (fun _ => ?_)
        refine JJ_aload_n dX10_work_80 rfl rfl ?_
        refine JJ_getr (q := t + 2) (cis := [10]) (k := 2) fa_X10_15 (by decide) ht.1 rfl ht.2.2.2.2.2.2.1 dX10_work_81 ?_
        refine JJ_iload_n dX10_work_84 rfl rfl ?_
        refine JJ_iconst (v := 1) dX10_work_85 rfl ?_
        refine JJ_isub dX10_work_86 ?_
        refine JJ_eqi (x2 := nI r.length) (pk_sub (a := r.length + 1) (b := 1) (by omega)) ?_
        refine JJ_ialdX (v := p) ht.2.2.1 (IX_nI (by omega) (by omega)) (hx _ _ (by omega)) hp dX10_work_87 ?_
        refine JJ_ineg dX10_work_88 ?_
        refine JJ_goto (tgt := 108) dX10_work_89 (by decide) ?_
        refine JJ_iastX ht.2.2.1 (IX_nI (by omega) (by omega)) dX10_work_108 (fun M21 hM22 => ?_)
        refine JJ_iload_n dX10_work_109 rfl rfl ?_
        refine JJ_iret dX10_work_110 rfl ?_
        exact ⟨rfl, M21, rfl, SR_up hs (by show r.length ≤ r.length + 1; omega) (fun k hk => by show _ = (p :: r).getD (k + (r.length + 1 - r.length)) 0; rw [show r.length + 1 - r.length = 1 by omega]; rfl) hM22, fun b k z => rd_n hM22 (by omega) rfl⟩
      · skip
        by_cases hp0 : p = 0
        · skip
          have e : crun1 nm (p :: r) op = 1 :: r := (if_neg h6).trans ((if_pos h8).trans (by show (if op = -8 then - p else b2 (p = 0)) :: r = _; rw [if_neg hm, b2_t hp0]))
          rw [e]
          refine JJ_iload_n dX10_work_0 rfl rfl ?_
          refine JJ_bipush (v := (-6)) dX10_work_1 rfl ?_
          refine JJ_icmp_lt (tgt := 47) dX10_work_3 (by decide) (fun _ => ?_) (fun c23 => absurd (Int32.not_le.mp h6) c23)
          refine JJ_iload_n dX10_work_47 rfl rfl ?_
          refine JJ_bipush (v := (-8)) dX10_work_48 rfl ?_
          refine JJ_icmp_lt (tgt := 111) dX10_work_50 (by decide) (fun c24 => absurd c24 (Int32.not_lt.mpr h8)) (fun _ => ?_)
          refine JJ_iload_n dX10_work_53 rfl rfl ?_
          refine JJ_iconst (v := 1) dX10_work_54 rfl ?_
          refine JJ_icmp_lt (tgt := 109) dX10_work_55 (by decide) (fun c25 => absurd c25 (nI_n1 (by omega))) (fun _ => ?_)
          refine JJ_iload_n dX10_work_58 rfl rfl ?_
          refine JJ_aload_n dX10_work_59 rfl rfl ?_
          refine JJ_getr (q := t + 2) (cis := [10]) (k := 2) fa_X10_15 (by decide) ht.1 rfl ht.2.2.2.2.2.2.1 dX10_work_60 ?_
          refine JJ_alen (t := 0) ht.2.2.1 (by decide) dX10_work_63 ?_
          refine JJ_icmp_gt (tgt := 109) dX10_work_64 (by decide) (fun c26 => absurd c26 (nI_n160 (by omega))) (fun _ => ?_)
          refine JJ_aload_n dX10_work_67 rfl rfl ?_
          refine JJ_getr (q := t + 2) (cis := [10]) (k := 2) fa_X10_15 (by decide) ht.1 rfl ht.2.2.2.2.2.2.1 dX10_work_68 ?_
          refine JJ_iload_n dX10_work_71 rfl rfl ?_
          refine JJ_iconst (v := 1) dX10_work_72 rfl ?_
          refine JJ_isub dX10_work_73 ?_
          refine JJ_eqi (x2 := nI r.length) (pk_sub (a := r.length + 1) (b := 1) (by omega)) ?_
          refine JJ_iload_n dX10_work_74 rfl rfl ?_
          refine JJ_bipush (v := (-8)) dX10_work_75 rfl ?_
          refine JJ_icmp_ne (tgt := 92) dX10_work_77 (by decide) (fun _ => ?_) (fun c27 => absurd c27 hm)
          refine JJ_aload_n dX10_work_92 rfl rfl ?_
          refine JJ_getr (q := t + 2) (cis := [10]) (k := 2) fa_X10_15 (by decide) ht.1 rfl ht.2.2.2.2.2.2.1 dX10_work_93 ?_
          refine JJ_iload_n dX10_work_96 rfl rfl ?_
          refine JJ_iconst (v := 1) dX10_work_97 rfl ?_
          refine JJ_isub dX10_work_98 ?_
          refine JJ_eqi (x2 := nI r.length) (pk_sub (a := r.length + 1) (b := 1) (by omega)) ?_
          refine JJ_ialdX (v := p) ht.2.2.1 (IX_nI (by omega) (by omega)) (hx _ _ (by omega)) hp dX10_work_99 ?_
          refine JJ_if_ne (tgt := 107) dX10_work_100 (by decide) (fun c28 => absurd hp0 c28) (fun _ => ?_)
          refine JJ_iconst (v := 1) dX10_work_103 rfl ?_
          refine JJ_goto (tgt := 108) dX10_work_104 (by decide) ?_
          refine JJ_iastX ht.2.2.1 (IX_nI (by omega) (by omega)) dX10_work_108 (fun M29 hM30 => ?_)
          refine JJ_iload_n dX10_work_109 rfl rfl ?_
          refine JJ_iret dX10_work_110 rfl ?_
          exact ⟨rfl, M29, rfl, SR_up hs (by show r.length ≤ r.length + 1; omega) (fun k hk => by show _ = (p :: r).getD (k + (r.length + 1 - r.length)) 0; rw [show r.length + 1 - r.length = 1 by omega]; rfl) hM30, fun b k z => rd_n hM30 (by omega) rfl⟩
        · skip
          have e : crun1 nm (p :: r) op = 0 :: r := (if_neg h6).trans ((if_pos h8).trans (by show (if op = -8 then - p else b2 (p = 0)) :: r = _; rw [if_neg hm, b2_f hp0]))
          rw [e]
          refine JJ_iload_n dX10_work_0 rfl rfl ?_
          refine JJ_bipush (v := (-6)) dX10_work_1 rfl ?_
          refine JJ_icmp_lt (tgt := 47) dX10_work_3 (by decide) (fun _ => ?_) (fun c31 => absurd (Int32.not_le.mp h6) c31)
          refine JJ_iload_n dX10_work_47 rfl rfl ?_
          refine JJ_bipush (v := (-8)) dX10_work_48 rfl ?_
          refine JJ_icmp_lt (tgt := 111) dX10_work_50 (by decide) (fun c32 => absurd c32 (Int32.not_lt.mpr h8)) (fun _ => ?_)
          refine JJ_iload_n dX10_work_53 rfl rfl ?_
          refine JJ_iconst (v := 1) dX10_work_54 rfl ?_
          refine JJ_icmp_lt (tgt := 109) dX10_work_55 (by decide) (fun c33 => absurd c33 (nI_n1 (by omega))) (fun _ => ?_)
          refine JJ_iload_n dX10_work_58 rfl rfl ?_
          refine JJ_aload_n dX10_work_59 rfl rfl ?_
          refine JJ_getr (q := t + 2) (cis := [10]) (k := 2) fa_X10_15 (by decide) ht.1 rfl ht.2.2.2.2.2.2.1 dX10_work_60 ?_
          refine JJ_alen (t := 0) ht.2.2.1 (by decide) dX10_work_63 ?_
          refine JJ_icmp_gt (tgt := 109) dX10_work_64 (by decide) (fun c34 => absurd c34 (nI_n160 (by omega))) (fun _ => ?_)
          refine JJ_aload_n dX10_work_67 rfl rfl ?_
          refine JJ_getr (q := t + 2) (cis := [10]) (k := 2) fa_X10_15 (by decide) ht.1 rfl ht.2.2.2.2.2.2.1 dX10_work_68 ?_
          refine JJ_iload_n dX10_work_71 rfl rfl ?_
          refine JJ_iconst (v := 1) dX10_work_72 rfl ?_
          refine JJ_isub dX10_work_73 ?_
          refine JJ_eqi (x2 := nI r.length) (pk_sub (a := r.length + 1) (b := 1) (by omega)) ?_
          refine JJ_iload_n dX10_work_74 rfl rfl ?_
          refine JJ_bipush (v := (-8)) dX10_work_75 rfl ?_
          refine JJ_icmp_ne (tgt := 92) dX10_work_77 (by decide) (fun _ => ?_) (fun c35 => absurd c35 hm)
          refine JJ_aload_n dX10_work_92 rfl rfl ?_
          refine JJ_getr (q := t + 2) (cis := [10]) (k := 2) fa_X10_15 (by decide) ht.1 rfl ht.2.2.2.2.2.2.1 dX10_work_93 ?_
          refine JJ_iload_n dX10_work_96 rfl rfl ?_
          refine JJ_iconst (v := 1) dX10_work_97 rfl ?_
          refine JJ_isub dX10_work_98 ?_
          refine JJ_eqi (x2 := nI r.length) (pk_sub (a := r.length + 1) (b := 1) (by omega)) ?_
          refine JJ_ialdX (v := p) ht.2.2.1 (IX_nI (by omega) (by omega)) (hx _ _ (by omega)) hp dX10_work_99 ?_
          refine JJ_if_ne (tgt := 107) dX10_work_100 (by decide) (fun _ => ?_) (fun c36 => absurd c36 hp0)
          refine JJ_iconst (v := 0) dX10_work_107 rfl ?_
          refine JJ_iastX ht.2.2.1 (IX_nI (by omega) (by omega)) dX10_work_108 (fun M37 hM38 => ?_)
          refine JJ_iload_n dX10_work_109 rfl rfl ?_
          refine JJ_iret dX10_work_110 rfl ?_
          exact ⟨rfl, M37, rfl, SR_up hs (by show r.length ≤ r.length + 1; omega) (fun k hk => by show _ = (p :: r).getD (k + (r.length + 1 - r.length)) 0; rw [show r.length + 1 - r.length = 1 by omega]; rfl) hM38, fun b k z => rd_n hM38 (by omega) rfl⟩
  match st, hl, hs with
  | [], hl, hs =>
    have e : crun1 nm [] op = [] := (if_neg h6).trans (if_neg h8)
    rw [e]
    refine JJ_iload_n dX10_work_0 rfl rfl ?_
    refine JJ_bipush (v := (-6)) dX10_work_1 rfl ?_
    refine JJ_icmp_lt (tgt := 47) dX10_work_3 (by decide) (fun _ => ?_) (fun c39 => absurd (Int32.not_le.mp h6) c39)
    refine JJ_iload_n dX10_work_47 rfl rfl ?_
    refine JJ_bipush (v := (-8)) dX10_work_48 rfl ?_
    refine JJ_icmp_lt (tgt := 111) dX10_work_50 (by decide) (fun _ => ?_) (fun c40 => absurd (Int32.not_le.mp h8) c40)
    refine JJ_iload_n dX10_work_111 rfl rfl ?_
    refine JJ_iconst (v := 2) dX10_work_112 rfl ?_
    refine JJ_icmp_lt (tgt := 125) dX10_work_113 (by decide) (fun _ => ?_) (fun c41 => absurd (show nI 0 < 2 by decide) c41)
    refine JJ_iload_n dX10_work_125 rfl rfl ?_
    refine JJ_iret dX10_work_126 rfl ?_
    exact ⟨rfl, M, rfl, hs, fun _ _ _ => rfl⟩
  | [p], hl, hs =>
    have e : crun1 nm [p] op = [p] := (if_neg h6).trans (if_neg h8)
    rw [e]
    refine JJ_iload_n dX10_work_0 rfl rfl ?_
    refine JJ_bipush (v := (-6)) dX10_work_1 rfl ?_
    refine JJ_icmp_lt (tgt := 47) dX10_work_3 (by decide) (fun _ => ?_) (fun c42 => absurd (Int32.not_le.mp h6) c42)
    refine JJ_iload_n dX10_work_47 rfl rfl ?_
    refine JJ_bipush (v := (-8)) dX10_work_48 rfl ?_
    refine JJ_icmp_lt (tgt := 111) dX10_work_50 (by decide) (fun _ => ?_) (fun c43 => absurd (Int32.not_le.mp h8) c43)
    refine JJ_iload_n dX10_work_111 rfl rfl ?_
    refine JJ_iconst (v := 2) dX10_work_112 rfl ?_
    refine JJ_icmp_lt (tgt := 125) dX10_work_113 (by decide) (fun _ => ?_) (fun c44 => absurd (show nI 1 < 2 by decide) c44)
    refine JJ_iload_n dX10_work_125 rfl rfl ?_
    refine JJ_iret dX10_work_126 rfl ?_
    exact ⟨rfl, M, rfl, hs, fun _ _ _ => rfl⟩
  | q :: p :: r, hl, hs =>
    have hl : r.length + 1 + 1 < 160 := hl
    have hq : M (t + 2) (r.length + 1) = q := hs 0 (Nat.succ_pos _)
    have hp : M (t + 2) r.length = p := hs 1 (Nat.succ_lt_succ (Nat.succ_pos _))
    have e : crun1 nm (q :: p :: r) op = s_join op p q :: r := (if_neg h6).trans (if_neg h8)
    rw [e]
    show JJ G sc yX10_work cX10_work 3 (some .int) 1 0 0 _ 0 [(0, .ref t), (1, .int op), (2, .int (nI (r.length + 1 + 1)))] [] (n, S, M, L, P)
    refine JJ_iload_n dX10_work_0 rfl rfl ?_
    refine JJ_bipush (v := (-6)) dX10_work_1 rfl ?_
    refine JJ_icmp_lt (tgt := 47) dX10_work_3 (by decide) (fun _ => ?_) (fun c45 => absurd (Int32.not_le.mp h6) c45)
    refine JJ_iload_n dX10_work_47 rfl rfl ?_
    refine JJ_bipush (v := (-8)) dX10_work_48 rfl ?_
    refine JJ_icmp_lt (tgt := 111) dX10_work_50 (by decide) (fun _ => ?_) (fun c46 => absurd (Int32.not_le.mp h8) c46)
    refine JJ_iload_n dX10_work_111 rfl rfl ?_
    refine JJ_iconst (v := 2) dX10_work_112 rfl ?_
    refine JJ_icmp_lt (tgt := 125) dX10_work_113 (by decide) (fun c47 => absurd c47 (nI_n2 (by omega))) (fun _ => ?_)
    refine JJ_iload_n dX10_work_116 rfl rfl ?_
    refine JJ_aload_n dX10_work_117 rfl rfl ?_
    refine JJ_getr (q := t + 2) (cis := [10]) (k := 2) fa_X10_15 (by decide) ht.1 rfl ht.2.2.2.2.2.2.1 dX10_work_118 ?_
    refine JJ_alen (t := 0) ht.2.2.1 (by decide) dX10_work_121 ?_
    refine JJ_icmp_le (tgt := 127) dX10_work_122 (by decide) (fun _ => ?_) (fun c48 => absurd (nI_le (b := 160) (by omega) (by omega)) c48)
    refine JJ_aload_n dX10_work_127 rfl rfl ?_
    refine JJ_getr (q := t + 2) (cis := [10]) (k := 2) fa_X10_15 (by decide) ht.1 rfl ht.2.2.2.2.2.2.1 dX10_work_128 ?_
    refine JJ_iload_n dX10_work_131 rfl rfl ?_
    refine JJ_iconst (v := 2) dX10_work_132 rfl ?_
    refine JJ_isub dX10_work_133 ?_
    refine JJ_eqi (x2 := nI r.length) (pk_sub (a := r.length + 1 + 1) (b := 2) (by omega)) ?_
    refine JJ_iload_n dX10_work_134 rfl rfl ?_
    refine JJ_aload_n dX10_work_135 rfl rfl ?_
    refine JJ_getr (q := t + 2) (cis := [10]) (k := 2) fa_X10_15 (by decide) ht.1 rfl ht.2.2.2.2.2.2.1 dX10_work_136 ?_
    refine JJ_iload_n dX10_work_139 rfl rfl ?_
    refine JJ_iconst (v := 2) dX10_work_140 rfl ?_
    refine JJ_isub dX10_work_141 ?_
    refine JJ_eqi (x2 := nI r.length) (pk_sub (a := r.length + 1 + 1) (b := 2) (by omega)) ?_
    refine JJ_ialdX (v := p) ht.2.2.1 (IX_nI (by omega) (by omega)) (hx _ _ (by omega)) hp dX10_work_142 ?_
    refine JJ_aload_n dX10_work_143 rfl rfl ?_
    refine JJ_getr (q := t + 2) (cis := [10]) (k := 2) fa_X10_15 (by decide) ht.1 rfl ht.2.2.2.2.2.2.1 dX10_work_144 ?_
    refine JJ_iload_n dX10_work_147 rfl rfl ?_
    refine JJ_iconst (v := 1) dX10_work_148 rfl ?_
    refine JJ_isub dX10_work_149 ?_
    refine JJ_eqi (x2 := nI (r.length + 1)) (pk_sub (a := r.length + 1 + 1) (b := 1) (by omega)) ?_
    refine JJ_ialdX (v := q) ht.2.2.1 (IX_nI (by omega) (by omega)) (hx _ _ (by omega)) hq dX10_work_150 ?_
    refine JJ_callS (rest := [.int (nI r.length), .ref (t + 2)]) (kc_join) (by omega) mi_X10_join lk_X10_43 rfl (Nat.le_of_ble_eq_true rfl) rfl rfl dX10_work_151 ?_
    intro v49 μ50 h51
    obtain ⟨rfl, rfl⟩ := h51
    refine JJ_r1 ?_
    refine JJ_iastX ht.2.2.1 (IX_nI (by omega) (by omega)) dX10_work_154 (fun M52 hM53 => ?_)
    refine JJ_iload_n dX10_work_155 rfl rfl ?_
    refine JJ_iconst (v := 1) dX10_work_156 rfl ?_
    refine JJ_isub dX10_work_157 ?_
    refine JJ_eqi (x2 := nI (r.length + 1)) (pk_sub (a := r.length + 1 + 1) (b := 1) (by omega)) ?_
    refine JJ_iret dX10_work_158 rfl ?_
    exact ⟨rfl, M52, rfl, SR_up hs (by show r.length ≤ r.length + 1 + 1; omega) (fun k hk => by show _ = (q :: p :: r).getD (k + (r.length + 1 + 1 - r.length)) 0; rw [show r.length + 1 + 1 - r.length = 2 by omega]; rfl) hM53, fun b k z => rd_n hM53 (by omega) rfl⟩
end C3
