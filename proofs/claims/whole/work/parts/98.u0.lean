section C30
variable {G : Gx} {sc : Nat → Nat → Prop} {n : Nat} {S : Nat → Nat × Nat} {M : Nat → Nat → Int32} {L : Nat → Nat → Int64} {P : Nat → Nat → Option Nat} {x : Nat} {A B : Abs} {b : Nat → Int32} {r : Nat}

set_option maxHeartbeats 4000000 in
set_option maxRecDepth 100000 in
theorem kc_tadd {q : Nat} {op : Int32} (hr : r < 6) (hq : M (x + 10 + 5 * r) 5 = nI q) (h160 : q < 160) (hC : CWT x S P) (hX : HSC x sc) : KK G sc yX10_add cX10_add 2 none 0 0 0 [.ref (x + 10 + 5 * r), .int op] (n, S, M, L, P) (ansV (n, S, up2 (up2 M (x + 10 + 5 * r + 1) q op) (x + 10 + 5 * r) 5 (nI (q + 1)), L, P)) := by
  refine KK_of2 [(0, .ref (x + 10 + 5 * r)), (1, .int op)] (by decide +kernel) (Nat.le_of_ble_eq_true rfl) rfl ?_
  refine JJ_aload_n dX10_add_0 rfl rfl ?_
  refine JJ_geti (v := nI q) (cis := [10]) (k := 5) fa_X10_24 (by decide) (congrArg Prod.fst (hC.2.2.1 r hr).1) rfl (hX.1 _ _ (by omega) (by omega) (by omega)) hq dX10_add_1 ?_
  refine JJ_aload_n dX10_add_4 rfl rfl ?_
  refine JJ_getr (q := x + 10 + 5 * r + 1) (cis := [10]) (k := 1) fa_X10_9 (by decide) (congrArg Prod.fst (hC.2.2.1 r hr).1) rfl (hC.2.2.1 r hr).2.2.2.2.2.1 dX10_add_5 ?_
  refine JJ_alen (t := 0) (hC.2.2.1 r hr).2.1 (by decide) dX10_add_8 ?_
  refine JJ_icmp_ge (tgt := 32) dX10_add_9 (by decide) (fun c1 => absurd c1 (nI_ge (b := 160) (by omega) (by omega))) (fun _ => ?_)
  refine JJ_aload_n dX10_add_12 rfl rfl ?_
  refine JJ_getr (q := x + 10 + 5 * r + 1) (cis := [10]) (k := 1) fa_X10_9 (by decide) (congrArg Prod.fst (hC.2.2.1 r hr).1) rfl (hC.2.2.1 r hr).2.2.2.2.2.1 dX10_add_13 ?_
  refine JJ_aload_n dX10_add_16 rfl rfl ?_
  refine JJ_geti (v := nI q) (cis := [10]) (k := 5) fa_X10_24 (by decide) (congrArg Prod.fst (hC.2.2.1 r hr).1) rfl (hX.1 _ _ (by omega) (by omega) (by omega)) hq dX10_add_17 ?_
  refine JJ_iload_n dX10_add_20 rfl rfl ?_
  refine JJ_iastX (hC.2.2.1 r hr).2.1 (IX_nI (by omega) (by omega)) dX10_add_21 (fun M2 hM3 => ?_)
  refine JJ_aload_n dX10_add_22 rfl rfl ?_
  refine JJ_dup dX10_add_23 rfl ?_
  refine JJ_geti (v := nI q) (cis := [10]) (k := 5) fa_X10_24 (by decide) (congrArg Prod.fst (hC.2.2.1 r hr).1) rfl (hX.1 _ _ (by omega) (by omega) (by omega)) (rd_n hM3 (by omega) hq) dX10_add_24 ?_
  refine JJ_iconst (v := 1) dX10_add_27 rfl ?_
  refine JJ_iadd dX10_add_28 ?_
  refine JJ_eqi (x2 := nI (q + 1)) (nI_add (q) (1)) ?_
  refine JJ_puti (cis := [10]) (k := 5) fa_X10_24 (by decide) (congrArg Prod.fst (hC.2.2.1 r hr).1) rfl (fun r hr => by cases hr; exact ⟨rfl, by decide +kernel⟩) dX10_add_29 (fun M4 hM5 => ?_)
  refine JJ_vret dX10_add_32 rfl ?_
  exact ⟨rfl, mem_eq (by rw [hM5, hM3])⟩
set_option maxHeartbeats 4000000 in
set_option maxRecDepth 100000 in
theorem kc_taddF {op : Int32} (hr : r < 6) (hq : M (x + 10 + 5 * r) 5 = nI 160) (hC : CWT x S P) (hX : HSC x sc) : KK G sc yX10_add cX10_add 2 none 0 0 0 [.ref (x + 10 + 5 * r), .int op] (n, S, M, L, P) (ansV (n, S, M, L, P)) := by
  refine KK_of2 [(0, .ref (x + 10 + 5 * r)), (1, .int op)] (by decide +kernel) (Nat.le_of_ble_eq_true rfl) rfl ?_
  refine JJ_aload_n dX10_add_0 rfl rfl ?_
  refine JJ_geti (v := nI 160) (cis := [10]) (k := 5) fa_X10_24 (by decide) (congrArg Prod.fst (hC.2.2.1 r hr).1) rfl (hX.1 _ _ (by omega) (by omega) (by omega)) hq dX10_add_1 ?_
  refine JJ_aload_n dX10_add_4 rfl rfl ?_
  refine JJ_getr (q := x + 10 + 5 * r + 1) (cis := [10]) (k := 1) fa_X10_9 (by decide) (congrArg Prod.fst (hC.2.2.1 r hr).1) rfl (hC.2.2.1 r hr).2.2.2.2.2.1 dX10_add_5 ?_
  refine JJ_alen (t := 0) (hC.2.2.1 r hr).2.1 (by decide) dX10_add_8 ?_
  refine JJ_icmp_ge (tgt := 32) dX10_add_9 (by decide) (fun _ => ?_) (fun c1 => absurd (by decide) c1)
  refine JJ_vret dX10_add_32 rfl ?_
  exact ⟨rfl, rfl⟩
set_option maxHeartbeats 4000000 in
set_option maxRecDepth 100000 in
theorem kc_tclear (hr : r < 6) (hC : CWT x S P) (hX : HSC x sc) : KK G sc yX10_clear cX10_clear 1 none 0 0 0 [.ref (x + 10 + 5 * r)] (n, S, M, L, P) (ansV (n, S, up2 M (x + 10 + 5 * r) 5 0, L, P)) := by
  refine KK_of2 [(0, .ref (x + 10 + 5 * r))] (by decide +kernel) (Nat.le_of_ble_eq_true rfl) rfl ?_
  refine JJ_aload_n dX10_clear_0 rfl rfl ?_
  refine JJ_iconst (v := 0) dX10_clear_1 rfl ?_
  refine JJ_puti (cis := [10]) (k := 5) fa_X10_24 (by decide) (congrArg Prod.fst (hC.2.2.1 r hr).1) rfl (fun r hr => by cases hr; exact ⟨rfl, by decide +kernel⟩) dX10_clear_2 (fun M1 hM2 => ?_)
  refine JJ_vret dX10_clear_5 rfl ?_
  exact ⟨rfl, mem_eq (by rw [hM2])⟩
set_option maxHeartbeats 4000000 in
set_option maxRecDepth 100000 in
theorem kc_tend {q p : Nat} (hr : r < 6) (hp : p < 3) (hq : M (x + 10 + 5 * r) 5 = nI q) (hC : CWT x S P) (hX : HSC x sc) : KK G sc yX10_endPart cX10_endPart 2 none 0 0 0 [.ref (x + 10 + 5 * r), .int (nI p)] (n, S, M, L, P) (ansV (n, S, up2 M (x + 10 + 5 * r + 4) p (nI q), L, P)) := by
  refine KK_of2 [(0, .ref (x + 10 + 5 * r)), (1, .int (nI p))] (by decide +kernel) (Nat.le_of_ble_eq_true rfl) rfl ?_
  refine JJ_iload_n dX10_endPart_0 rfl rfl ?_
  refine JJ_if_lt (tgt := 23) dX10_endPart_1 (by decide) (fun c1 => absurd c1 (nI_nn (by omega))) (fun _ => ?_)
  refine JJ_iload_n dX10_endPart_4 rfl rfl ?_
  refine JJ_aload_n dX10_endPart_5 rfl rfl ?_
  refine JJ_getr (q := x + 10 + 5 * r + 4) (cis := [10]) (k := 4) fa_X10_21 (by decide) (congrArg Prod.fst (hC.2.2.1 r hr).1) rfl (hC.2.2.1 r hr).2.2.2.2.2.2.2.2 dX10_endPart_6 ?_
  refine JJ_alen (t := 0) (hC.2.2.1 r hr).2.2.2.2.1 (by decide) dX10_endPart_9 ?_
  refine JJ_icmp_ge (tgt := 23) dX10_endPart_10 (by decide) (fun c2 => absurd c2 (nI_ge (b := 3) (by omega) (by omega))) (fun _ => ?_)
  refine JJ_aload_n dX10_endPart_13 rfl rfl ?_
  refine JJ_getr (q := x + 10 + 5 * r + 4) (cis := [10]) (k := 4) fa_X10_21 (by decide) (congrArg Prod.fst (hC.2.2.1 r hr).1) rfl (hC.2.2.1 r hr).2.2.2.2.2.2.2.2 dX10_endPart_14 ?_
  refine JJ_iload_n dX10_endPart_17 rfl rfl ?_
  refine JJ_aload_n dX10_endPart_18 rfl rfl ?_
  refine JJ_geti (v := nI q) (cis := [10]) (k := 5) fa_X10_24 (by decide) (congrArg Prod.fst (hC.2.2.1 r hr).1) rfl (hX.1 _ _ (by omega) (by omega) (by omega)) hq dX10_endPart_19 ?_
  refine JJ_iastX (hC.2.2.1 r hr).2.2.2.2.1 (IX_nI (by omega) (by omega)) dX10_endPart_22 (fun M3 hM4 => ?_)
  refine JJ_vret dX10_endPart_23 rfl ?_
  exact ⟨rfl, mem_eq (by rw [hM4])⟩
set_option maxHeartbeats 4000000 in
set_option maxRecDepth 100000 in
theorem kc_emit {q : Nat} {op : Int32} (hr : r < 6) (hP : P (x + 2) 2 = some (x + 10 + 5 * r)) (hq : M (x + 10 + 5 * r) 5 = nI q) (h160 : q < 160) (hC : CWT x S P) (hX : HSC x sc) : KK G sc yX9_emit cX9_emit 2 none 1 0 0 [.ref (x + 2), .int op] (n, S, M, L, P) (ansV (n, S, up2 (up2 M (x + 10 + 5 * r + 1) q op) (x + 10 + 5 * r) 5 (nI (q + 1)), L, P)) := by
  refine KK_of2 [(0, .ref (x + 2)), (1, .int op)] (by decide +kernel) (Nat.le_of_ble_eq_true rfl) rfl ?_
  refine JJ_aload_n dX9_emit_0 rfl rfl ?_
  refine JJ_getr (q := x + 10 + 5 * r) (cis := [9]) (k := 2) fa_X9_19 (by decide) (congrArg Prod.fst (hC.sh (t := 2) (k := 10) (m := 0) (by decide))) rfl hP dX9_emit_1 ?_
  refine JJ_ifnullR dX9_emit_4 ?_
  refine JJ_aload_n dX9_emit_7 rfl rfl ?_
  refine JJ_getr (q := x + 10 + 5 * r) (cis := [9]) (k := 2) fa_X9_19 (by decide) (congrArg Prod.fst (hC.sh (t := 2) (k := 10) (m := 0) (by decide))) rfl hP dX9_emit_8 ?_
  refine JJ_iload_n dX9_emit_11 rfl rfl ?_
  refine JJ_callV (rest := []) (congrArg Prod.fst (hC.2.2.1 r hr).1) rfl rfl (kc_tadd hr hq h160 hC hX) (by omega) mi_X10_add lk_X9_73 rfl (Nat.le_of_ble_eq_true rfl) rfl rfl dX9_emit_12 ?_
  intro v1 μ2 h3
  obtain ⟨rfl, rfl⟩ := h3
  refine JJ_r0 ?_
  refine JJ_vret dX9_emit_15 rfl ?_
  exact ⟨rfl, rfl⟩
set_option maxHeartbeats 4000000 in
set_option maxRecDepth 100000 in
theorem kc_emitF {op : Int32} (hr : r < 6) (hP : P (x + 2) 2 = some (x + 10 + 5 * r)) (hq : M (x + 10 + 5 * r) 5 = nI 160) (hC : CWT x S P) (hX : HSC x sc) : KK G sc yX9_emit cX9_emit 2 none 1 0 0 [.ref (x + 2), .int op] (n, S, M, L, P) (ansV (n, S, M, L, P)) := by
  refine KK_of2 [(0, .ref (x + 2)), (1, .int op)] (by decide +kernel) (Nat.le_of_ble_eq_true rfl) rfl ?_
  refine JJ_aload_n dX9_emit_0 rfl rfl ?_
  refine JJ_getr (q := x + 10 + 5 * r) (cis := [9]) (k := 2) fa_X9_19 (by decide) (congrArg Prod.fst (hC.sh (t := 2) (k := 10) (m := 0) (by decide))) rfl hP dX9_emit_1 ?_
  refine JJ_ifnullR dX9_emit_4 ?_
  refine JJ_aload_n dX9_emit_7 rfl rfl ?_
  refine JJ_getr (q := x + 10 + 5 * r) (cis := [9]) (k := 2) fa_X9_19 (by decide) (congrArg Prod.fst (hC.sh (t := 2) (k := 10) (m := 0) (by decide))) rfl hP dX9_emit_8 ?_
  refine JJ_iload_n dX9_emit_11 rfl rfl ?_
  refine JJ_callV (rest := []) (congrArg Prod.fst (hC.2.2.1 r hr).1) rfl rfl (kc_taddF hr hq hC hX) (by omega) mi_X10_add lk_X9_73 rfl (Nat.le_of_ble_eq_true rfl) rfl rfl dX9_emit_12 ?_
  intro v1 μ2 h3
  obtain ⟨rfl, rfl⟩ := h3
  refine JJ_r0 ?_
  refine JJ_vret dX9_emit_15 rfl ?_
  exact ⟨rfl, rfl⟩
set_option maxHeartbeats 4000000 in
set_option maxRecDepth 100000 in
theorem kc_fail (hC : CWT x S P) (hX : HSC x sc) : KK G sc yX9_fail cX9_fail 1 none 0 0 0 [.ref (x + 2)] (n, S, M, L, P) (ansV (n, S, up2 (up2 M (x + 2) 7 (M (x + 2) 4)) (x + 2) 5 9, L, P)) := by
  refine KK_of2 [(0, .ref (x + 2))] (by decide +kernel) (Nat.le_of_ble_eq_true rfl) rfl ?_
  refine JJ_aload_n dX9_fail_0 rfl rfl ?_
  refine JJ_aload_n dX9_fail_1 rfl rfl ?_
  refine JJ_geti (v := M (x + 2) 4) (cis := [9]) (k := 4) fa_X9_26 (by decide) (congrArg Prod.fst (hC.sh (t := 2) (k := 10) (m := 0) (by decide))) rfl (hX.1 _ _ (by omega) (by omega) (by omega)) rfl dX9_fail_2 ?_
  refine JJ_puti (cis := [9]) (k := 7) fa_X9_35 (by decide) (congrArg Prod.fst (hC.sh (t := 2) (k := 10) (m := 0) (by decide))) rfl (fun r hr => by cases hr; exact ⟨rfl, by decide +kernel⟩) dX9_fail_5 (fun M1 hM2 => ?_)
  refine JJ_aload_n dX9_fail_8 rfl rfl ?_
  refine JJ_bipush (v := 9) dX9_fail_9 rfl ?_
  refine JJ_puti (cis := [9]) (k := 5) fa_X9_29 (by decide) (congrArg Prod.fst (hC.sh (t := 2) (k := 10) (m := 0) (by decide))) rfl (fun r hr => by cases hr; exact ⟨rfl, by decide +kernel⟩) dX9_fail_11 (fun M3 hM4 => ?_)
  refine JJ_vret dX9_fail_14 rfl ?_
  exact ⟨rfl, mem_eq (by rw [hM4, hM2])⟩
/-- the reader reads the tape's m bytes b into the text r -/
def RDB (x r : Nat) (b : Nat → Int32) (m : Nat) (P : Nat → Nat → Option Nat) (M : Nat → Nat → Int32) : Prop := r < 6 ∧ m ≤ 160 ∧ M (x + 2) 1 = nI m ∧ (∀ i, M (x + 3) i = b i) ∧ P (x + 2) 2 = some (x + 10 + 5 * r)
/-- it stands before the token read from i on, having written cs -/
def ROK (x r : Nat) (b : Nat → Int32) (m : Nat) (cs : List Int32) (i : Nat) (P : Nat → Nat → Option Nat) (M : Nat → Nat → Int32) : Prop := RDB x r b m P M ∧ i ≤ m ∧ cs.length ≤ i ∧ M (x + 10 + 5 * r) 5 = nI cs.length ∧ (∀ k, k < cs.length → M (x + 10 + 5 * r + 1) k = cs.getD k 0) ∧ M (x + 2) 7 = -1 ∧ TKC x b m i M
/-- it has met a fault at k -/
def RBAD (x r : Nat) (b : Nat → Int32) (m k : Nat) (P : Nat → Nat → Option Nat) (M : Nat → Nat → Int32) : Prop := RDB x r b m P M ∧ (∃ q, q ≤ 160 ∧ M (x + 10 + 5 * r) 5 = nI q ∧ k ≤ m) ∧ M (x + 2) 5 = 9 ∧ M (x + 2) 4 = nI k ∧ M (x + 2) 7 = nI k
/-- what the reading changes -/
def RCH (x r a k : Nat) : Prop := (a = x + 2 ∧ 3 ≤ k ∧ k ≤ 7) ∨ (a = x + 10 + 5 * r ∧ k = 5) ∨ a = x + 10 + 5 * r + 1
theorem RDB.keep {m : Nat} {M' : Nat → Nat → Int32} (h : RDB x r b m P M) (hk : ∀ a k, ¬ RCH x r a k → M' a k = M a k) : RDB x r b m P M' := by
  have hr := h.1
  exact ⟨h.1, h.2.1, (hk _ _ (by unfold RCH; omega)).trans h.2.2.1, fun i => (hk _ _ (by unfold RCH; omega)).trans (h.2.2.2.1 i), h.2.2.2.2⟩
/-- what a part leaves -/
def RPO (x r : Nat) (b : Nat → Int32) (m : Nat) (cs : List Int32) (g : PR) (P : Nat → Nat → Option Nat) (M : Nat → Nat → Int32) : Prop := match g with
  | .inl k => RBAD x r b m k P M
  | .inr (c, _, j) => ROK x r b m (cs ++ c) j P M
theorem kc_failG {m i : Nat} {cs : List Int32} (h : ROK x r b m cs i P M) (hC : CWT x S P) (hX : HSC x sc) : KK G sc yX9_fail cX9_fail 1 none 0 0 0 [.ref (x + 2)] (n, S, M, L, P) (fun v μ => v = none ∧ ∃ M', μ = (n, S, M', L, P) ∧ RBAD x r b m (tok b m i).2.2.1 P M' ∧ ∀ a k, ¬ RCH x r a k → M' a k = M a k) := by
  refine KK_mono (kc_fail hC hX) ?_
  intro v μ ⟨h1, h2⟩
  obtain ⟨q1, q2, q3, q4, q5, q6, t5, t4, t3, t6⟩ := h
  have hr := q1.1
  have hk : ∀ a k, ¬ RCH x r a k → up2 (up2 M (x + 2) 7 (M (x + 2) 4)) (x + 2) 5 9 a k = M a k := fun a k z => (up2_n (fun e => z (by unfold RCH; omega))).trans (up2_n (fun e => z (by unfold RCH; omega)))
  have hm := q1.2.1
  exact ⟨h1, _, h2, ⟨q1.keep hk, ⟨cs.length, by omega, (up2_n (by omega)).trans ((up2_n (by omega)).trans q4), by rw [tok_s]; exact run_le q2⟩, up2_s, (up2_n (by omega)).trans ((up2_n (by omega)).trans t4), (up2_n (by omega)).trans (up2_s.trans t4)⟩, hk⟩
theorem kc_failB {m k : Nat} (h : RBAD x r b m k P M) (hC : CWT x S P) (hX : HSC x sc) : KK G sc yX9_fail cX9_fail 1 none 0 0 0 [.ref (x + 2)] (n, S, M, L, P) (fun v μ => v = none ∧ ∃ M', μ = (n, S, M', L, P) ∧ RBAD x r b m k P M' ∧ ∀ a k, ¬ RCH x r a k → M' a k = M a k) := by
  refine KK_mono (kc_fail hC hX) ?_
  intro v μ ⟨h1, h2⟩
  obtain ⟨q1, ⟨q, q2, q3⟩, q4, q5, q6⟩ := h
  have hr := q1.1
  have hk : ∀ a k, ¬ RCH x r a k → up2 (up2 M (x + 2) 7 (M (x + 2) 4)) (x + 2) 5 9 a k = M a k := fun a k z => (up2_n (fun e => z (by unfold RCH; omega))).trans (up2_n (fun e => z (by unfold RCH; omega)))
  exact ⟨h1, _, h2, ⟨q1.keep hk, ⟨q, q2, (up2_n (by omega)).trans ((up2_n (by omega)).trans q3.1), q3.2⟩, up2_s, (up2_n (by omega)).trans ((up2_n (by omega)).trans q5), (up2_n (by omega)).trans (up2_s.trans q5)⟩, hk⟩
/-- next, from a good state before a token that is something -/
theorem kc_nextG {m i : Nat} {cs : List Int32} (h : ROK x r b m cs i P M) (hk : (tok b m i).1 ≠ 0) (hC : CWT x S P) (hX : HSC x sc) : KK G sc yX9_next cX9_next 2 none 8 0 0 [.ref (x + 2)] (n, S, M, L, P) (fun v μ => v = none ∧ ∃ M', μ = (n, S, M', L, P) ∧ ROK x r b m cs (tok b m i).2.2.2 P M' ∧ ∀ a k, ¬ RCH x r a k → M' a k = M a k) := by
  obtain ⟨q1, q2, q3, q4, q5, q6, t5, t4, t3, t6⟩ := h
  have hr := q1.1
  obtain ⟨e1, e2⟩ := tk_e hk
  refine KK_mono (kc_next q1.2.2.2.1 q1.2.2.1 q1.2.1 e2 t3 hC hX) ?_
  intro v μ ⟨h1, M', h2, h3, h4⟩
  have hk : ∀ a k, ¬ RCH x r a k → M' a k = M a k := fun a k z => h4 a k (fun e => z (by unfold RCH; omega))
  exact ⟨h1, M', h2, ⟨q1.keep hk, e2, by omega, (h4 _ _ (by omega)).trans q4, fun k hk => (h4 _ _ (by omega)).trans (q5 k hk), (h4 _ _ (by omega)).trans q6, h3⟩, hk⟩
/-- emit, from a good state -/
theorem kc_emitG {m i : Nat} {cs : List Int32} {op : Int32} (h : ROK x r b m cs i P M) (hl : cs.length < i) (hC : CWT x S P) (hX : HSC x sc) : KK G sc yX9_emit cX9_emit 2 none 1 0 0 [.ref (x + 2), .int op] (n, S, M, L, P) (fun v μ => v = none ∧ ∃ M', μ = (n, S, M', L, P) ∧ ROK x r b m (cs ++ [op]) i P M' ∧ ∀ a k, ¬ RCH x r a k → M' a k = M a k) := by
  obtain ⟨q1, q2, q3, q4, q5, q6, t5, t4, t3, t6⟩ := h
  have hr := q1.1
  have hm := q1.2.1
  refine KK_mono (kc_emit hr q1.2.2.2.2 q4 (by omega) hC hX) ?_
  intro v μ ⟨h1, h2⟩
  have e : ∀ a k, ¬ (a = x + 10 + 5 * r ∧ k = 5) → ¬ (a = x + 10 + 5 * r + 1 ∧ k = cs.length) → up2 (up2 M (x + 10 + 5 * r + 1) cs.length op) (x + 10 + 5 * r) 5 (nI (cs.length + 1)) a k = M a k := fun a k z1 z2 => (up2_n z1).trans (up2_n z2)
  have hk : ∀ a k, ¬ RCH x r a k → up2 (up2 M (x + 10 + 5 * r + 1) cs.length op) (x + 10 + 5 * r) 5 (nI (cs.length + 1)) a k = M a k := fun a k z => e a k (fun y => z (by unfold RCH; omega)) (fun y => z (by unfold RCH; omega))
  refine ⟨h1, _, h2, ⟨q1.keep hk, q2, by simp only [List.length_append, List.length_cons, List.length_nil]; omega, up2_s.trans (by simp only [List.length_append, List.length_cons, List.length_nil]), fun k hk2 => ?_, (e _ _ (by omega) (by omega)).trans q6, (e _ _ (by omega) (by omega)).trans t5, (e _ _ (by omega) (by omega)).trans t4, (e _ _ (by omega) (by omega)).trans t3, fun z => (e _ _ (by omega) (by omega)).trans (t6 z)⟩, hk⟩
  simp only [List.length_append, List.length_cons, List.length_nil] at hk2
  by_cases ek : k = cs.length
  · rw [ek, up2_n (by omega), up2_s, List.getD_eq_getElem?_getD, List.getElem?_append_right (Nat.le_refl _), Nat.sub_self]
    rfl
  · rw [e _ _ (by omega) (by omega), q5 k (by omega), List.getD_eq_getElem?_getD, List.getD_eq_getElem?_getD, List.getElem?_append_left (by omega)]
/-- emit, after a fault -/
theorem kc_emitB {m k : Nat} {op : Int32} (h : RBAD x r b m k P M) (hC : CWT x S P) (hX : HSC x sc) : KK G sc yX9_emit cX9_emit 2 none 1 0 0 [.ref (x + 2), .int op] (n, S, M, L, P) (fun v μ => v = none ∧ ∃ M', μ = (n, S, M', L, P) ∧ RBAD x r b m k P M' ∧ ∀ a k, ¬ RCH x r a k → M' a k = M a k) := by
  obtain ⟨q1, ⟨q, q2, q3⟩, q4, q5, q6⟩ := h
  have hr := q1.1
  by_cases hq : q = 160
  · subst hq
    refine KK_mono (kc_emitF hr q1.2.2.2.2 q3.1 hC hX) ?_
    intro v μ ⟨h1, h2⟩
    exact ⟨h1, M, h2, ⟨q1, ⟨160, q2, q3⟩, q4, q5, q6⟩, fun _ _ _ => rfl⟩
  · refine KK_mono (kc_emit hr q1.2.2.2.2 q3.1 (by omega) hC hX) ?_
    intro v μ ⟨h1, h2⟩
    have e : ∀ a k, ¬ (a = x + 10 + 5 * r ∧ k = 5) → ¬ (a = x + 10 + 5 * r + 1) → up2 (up2 M (x + 10 + 5 * r + 1) q op) (x + 10 + 5 * r) 5 (nI (q + 1)) a k = M a k := fun a k z1 z2 => (up2_n z1).trans (up2_n (fun y => z2 y.1))
    have hk : ∀ a k, ¬ RCH x r a k → up2 (up2 M (x + 10 + 5 * r + 1) q op) (x + 10 + 5 * r) 5 (nI (q + 1)) a k = M a k := fun a k z => e a k (fun y => z (by unfold RCH; omega)) (fun y => z (by unfold RCH; omega))
    exact ⟨h1, _, h2, ⟨q1.keep hk, ⟨q + 1, by omega, up2_s, q3.2⟩, (e _ _ (by omega) (by omega)).trans q4, (e _ _ (by omega) (by omega)).trans q5, (e _ _ (by omega) (by omega)).trans q6⟩, hk⟩
end C30
