/-! ===== instanceof ===== -/
section JIN
variable {G : Gx} {y : MethodName} {cc : ByteArray} {nL : Nat} {ret : Option FieldType} {d kc ks : Nat} {Φ : Option Value → Mem → Prop} {pc : Nat} {lv : List (Nat × Value)} {st : List Value} {μ : Mem}
theorem J_instY {a ci idx : Nat} {r : vw_C} {nm : String} (hs : (sh μ a).1 = ci + 1) (hc : vwCl[ci]? = some r) (hl : Cond.classLink y.cls idx nm ∈ TBL) (hq : (r.1, nm) ∈ CW) (hdg : decode cc pc = .ok (.instanceof idx, 3)) (kk : J G y cc nL ret d kc ks Φ (pc + 3) lv (.int 1 :: st) μ) : J G y cc nL ret d kc ks Φ pc lv (.ref a :: st) μ := by
  intro p l e s m args below meth c H locs cells slots mc ms ls C h1 h2 hS hW hv
  have hts := C.2.2.2.2.1
  exact va_instY C.1 C.2.1 C.2.2.2.2.2.1 (hts _ hl) (C.2.2.2.2.2.2.2.2.1.2.2.1 _ hq) (J_recv C hW hs hc) hdg (kk p l e s m args below meth c H locs cells slots mc ms ls C h1 h2 hS hW hv)
theorem J_instE {a ci idx : Nat} {r : vw_C} (hs : (sh μ a).1 = ci + 1) (hc : vwCl[ci]? = some r) (hl : Cond.classLink y.cls idx r.1 ∈ TBL) (hdg : decode cc pc = .ok (.instanceof idx, 3)) (kk : J G y cc nL ret d kc ks Φ (pc + 3) lv (.int 1 :: st) μ) : J G y cc nL ret d kc ks Φ pc lv (.ref a :: st) μ := by
  intro p l e s m args below meth c H locs cells slots mc ms ls C h1 h2 hS hW hv
  have hts := C.2.2.2.2.1
  exact va_instE C.1 C.2.1 C.2.2.2.2.2.1 (hts _ hl) (J_recv C hW hs hc) hdg (kk p l e s m args below meth c H locs cells slots mc ms ls C h1 h2 hS hW hv)
theorem J_instN {a ci idx : Nat} {r : vw_C} {nm : String} (hs : (sh μ a).1 = ci + 1) (hc : vwCl[ci]? = some r) (hl : Cond.classLink y.cls idx nm ∈ TBL) (hq : (r.1, nm) ∈ NC) (hdg : decode cc pc = .ok (.instanceof idx, 3)) (kk : J G y cc nL ret d kc ks Φ (pc + 3) lv (.int 0 :: st) μ) : J G y cc nL ret d kc ks Φ pc lv (.ref a :: st) μ := by
  intro p l e s m args below meth c H locs cells slots mc ms ls C h1 h2 hS hW hv
  have hts := C.2.2.2.2.1
  exact va_instNo C.1 C.2.1 C.2.2.2.2.2.1 (hts _ hl) (C.2.2.2.2.2.2.2.2.1.2.2.2.2.1 _ hq) (J_recv C hW hs hc) hdg (kk p l e s m args below meth c H locs cells slots mc ms ls C h1 h2 hS hW hv)
variable {sc : Nat → Nat → Prop} {n : Nat} {S : Nat → Nat × Nat} {M : Nat → Nat → Int32} {L : Nat → Nat → Int64} {P : Nat → Nat → Option Nat}
theorem JJ_instY {a ci idx : Nat} {r : vw_C} {nm : String} (hs : (S a).1 = ci + 1) (hc : vwCl[ci]? = some r) (hl : Cond.classLink y.cls idx nm ∈ TBL) (hq : (r.1, nm) ∈ CW) (hdg : decode cc pc = .ok (.instanceof idx, 3)) (k : JJ G sc y cc nL ret d kc ks Φ (pc + 3) lv (.int 1 :: st) (n, S, M, L, P)) : JJ G sc y cc nL ret d kc ks Φ pc lv (.ref a :: st) (n, S, M, L, P) :=
  fun μ' h => J_instY (by rw [show sh μ' = S from h.2.1]; exact hs) hc hl hq hdg (k μ' h)
theorem JJ_instE {a ci idx : Nat} {r : vw_C} (hs : (S a).1 = ci + 1) (hc : vwCl[ci]? = some r) (hl : Cond.classLink y.cls idx r.1 ∈ TBL) (hdg : decode cc pc = .ok (.instanceof idx, 3)) (k : JJ G sc y cc nL ret d kc ks Φ (pc + 3) lv (.int 1 :: st) (n, S, M, L, P)) : JJ G sc y cc nL ret d kc ks Φ pc lv (.ref a :: st) (n, S, M, L, P) :=
  fun μ' h => J_instE (by rw [show sh μ' = S from h.2.1]; exact hs) hc hl hdg (k μ' h)
theorem JJ_instN {a ci idx : Nat} {r : vw_C} {nm : String} (hs : (S a).1 = ci + 1) (hc : vwCl[ci]? = some r) (hl : Cond.classLink y.cls idx nm ∈ TBL) (hq : (r.1, nm) ∈ NC) (hdg : decode cc pc = .ok (.instanceof idx, 3)) (k : JJ G sc y cc nL ret d kc ks Φ (pc + 3) lv (.int 0 :: st) (n, S, M, L, P)) : JJ G sc y cc nL ret d kc ks Φ pc lv (.ref a :: st) (n, S, M, L, P) :=
  fun μ' h => J_instN (by rw [show sh μ' = S from h.2.1]; exact hs) hc hl hq hdg (k μ' h)
end JIN
section C11
variable {G : Gx} {sc : Nat → Nat → Prop} {n : Nat} {S : Nat → Nat × Nat} {M : Nat → Nat → Int32} {L : Nat → Nat → Int64} {P : Nat → Nat → Option Nat} {x : Nat} {A : Abs}

set_option maxHeartbeats 4000000 in
set_option maxRecDepth 100000 in
theorem kc_isUnder {a k : Nat} {kd nb am : Int32} (hk : k ≤ 5) (hst : STK S M a kd nb am) : KK G sc yX11_isUnder cX11_isUnder 2 (some .boolean) 1 0 0 [.ref a, .int (nI k)] (n, S, M, L, P) (ansI (b2 (s_under kd (nI k) = true)) (n, S, M, L, P)) := by
  obtain ⟨ci, hci, hs, hkd, -, -⟩ := hst
  rcases (by omega : k = 0 ∨ k = 1 ∨ k = 2 ∨ k = 3 ∨ k = 4 ∨ k = 5) with rfl | rfl | rfl | rfl | rfl | rfl
  · skip
    have e0 : s_under kd (nI 0) = true := by rw [hkd]; rcases hci with rfl | rfl | rfl | rfl | rfl | rfl <;> decide
    rw [b2_t e0]
    refine KK_of2 [(0, .ref a), (1, .int 0)] (by decide +kernel) (Nat.le_of_ble_eq_true rfl) rfl ?_
    refine JJ_iload_n dX11_isUnder_0 rfl rfl ?_
    refine JJ_tabOut (tgt := 61) dX11_isUnder_1 (by decide) (by decide) ?_
    refine JJ_iconst (v := 1) dX11_isUnder_61 rfl ?_
    refine JJ_zret dX11_isUnder_62 rfl (Or.inr rfl) ?_
    exact ans_i rfl
  · skip
    rcases hci with rfl | rfl | rfl | rfl | rfl | rfl
    · skip
      rw [hkd, b2_f (show ¬ s_under (s_kd 0) (nI 1) = true by decide)]
      refine KK_of2 [(0, .ref a), (1, .int 1)] (by decide +kernel) (Nat.le_of_ble_eq_true rfl) rfl ?_
      refine JJ_iload_n dX11_isUnder_0 rfl rfl ?_
      refine JJ_tabIn (tgt := 36) (1) dX11_isUnder_1 rfl (by decide) rfl (by decide) ?_
      refine JJ_aload_n dX11_isUnder_36 rfl rfl ?_
      refine JJ_instN hs (rfl : vwCl[0]? = some (RX0, TX0, 2)) tb_504 (by decide) dX11_isUnder_37 ?_
      refine JJ_zret dX11_isUnder_40 rfl (Or.inl rfl) ?_
      exact ans_i rfl
    · skip
      rw [hkd, b2_t (show s_under (s_kd 2) (nI 1) = true by decide)]
      refine KK_of2 [(0, .ref a), (1, .int 1)] (by decide +kernel) (Nat.le_of_ble_eq_true rfl) rfl ?_
      refine JJ_iload_n dX11_isUnder_0 rfl rfl ?_
      refine JJ_tabIn (tgt := 36) (1) dX11_isUnder_1 rfl (by decide) rfl (by decide) ?_
      refine JJ_aload_n dX11_isUnder_36 rfl rfl ?_
      refine JJ_instY hs (rfl : vwCl[2]? = some (RX2, TX2, 2)) tb_504 (by decide) dX11_isUnder_37 ?_
      refine JJ_zret dX11_isUnder_40 rfl (Or.inr rfl) ?_
      exact ans_i rfl
    · skip
      rw [hkd, b2_f (show ¬ s_under (s_kd 3) (nI 1) = true by decide)]
      refine KK_of2 [(0, .ref a), (1, .int 1)] (by decide +kernel) (Nat.le_of_ble_eq_true rfl) rfl ?_
      refine JJ_iload_n dX11_isUnder_0 rfl rfl ?_
      refine JJ_tabIn (tgt := 36) (1) dX11_isUnder_1 rfl (by decide) rfl (by decide) ?_
      refine JJ_aload_n dX11_isUnder_36 rfl rfl ?_
      refine JJ_instN hs (rfl : vwCl[3]? = some (RX3, TX3, 2)) tb_504 (by decide) dX11_isUnder_37 ?_
      refine JJ_zret dX11_isUnder_40 rfl (Or.inl rfl) ?_
      exact ans_i rfl
    · skip
      rw [hkd, b2_t (show s_under (s_kd 4) (nI 1) = true by decide)]
      refine KK_of2 [(0, .ref a), (1, .int 1)] (by decide +kernel) (Nat.le_of_ble_eq_true rfl) rfl ?_
      refine JJ_iload_n dX11_isUnder_0 rfl rfl ?_
      refine JJ_tabIn (tgt := 36) (1) dX11_isUnder_1 rfl (by decide) rfl (by decide) ?_
      refine JJ_aload_n dX11_isUnder_36 rfl rfl ?_
      refine JJ_instE hs (rfl : vwCl[4]? = some (RX4, TX4, 2)) tb_504 dX11_isUnder_37 ?_
      refine JJ_zret dX11_isUnder_40 rfl (Or.inr rfl) ?_
      exact ans_i rfl
    · skip
      rw [hkd, b2_t (show s_under (s_kd 5) (nI 1) = true by decide)]
      refine KK_of2 [(0, .ref a), (1, .int 1)] (by decide +kernel) (Nat.le_of_ble_eq_true rfl) rfl ?_
      refine JJ_iload_n dX11_isUnder_0 rfl rfl ?_
      refine JJ_tabIn (tgt := 36) (1) dX11_isUnder_1 rfl (by decide) rfl (by decide) ?_
      refine JJ_aload_n dX11_isUnder_36 rfl rfl ?_
      refine JJ_instY hs (rfl : vwCl[5]? = some (RX5, TX5, 2)) tb_504 (by decide) dX11_isUnder_37 ?_
      refine JJ_zret dX11_isUnder_40 rfl (Or.inr rfl) ?_
      exact ans_i rfl
    · skip
      rw [hkd, b2_f (show ¬ s_under (s_kd 8) (nI 1) = true by decide)]
      refine KK_of2 [(0, .ref a), (1, .int 1)] (by decide +kernel) (Nat.le_of_ble_eq_true rfl) rfl ?_
      refine JJ_iload_n dX11_isUnder_0 rfl rfl ?_
      refine JJ_tabIn (tgt := 36) (1) dX11_isUnder_1 rfl (by decide) rfl (by decide) ?_
      refine JJ_aload_n dX11_isUnder_36 rfl rfl ?_
      refine JJ_instN hs (rfl : vwCl[8]? = some (RX8, TX8, 2)) tb_504 (by decide) dX11_isUnder_37 ?_
      refine JJ_zret dX11_isUnder_40 rfl (Or.inl rfl) ?_
      exact ans_i rfl
  · skip
    rcases hci with rfl | rfl | rfl | rfl | rfl | rfl
    · skip
      rw [hkd, b2_t (show s_under (s_kd 0) (nI 2) = true by decide)]
      refine KK_of2 [(0, .ref a), (1, .int 2)] (by decide +kernel) (Nat.le_of_ble_eq_true rfl) rfl ?_
      refine JJ_iload_n dX11_isUnder_0 rfl rfl ?_
      refine JJ_tabIn (tgt := 41) (2) dX11_isUnder_1 rfl (by decide) rfl (by decide) ?_
      refine JJ_aload_n dX11_isUnder_41 rfl rfl ?_
      refine JJ_instY hs (rfl : vwCl[0]? = some (RX0, TX0, 2)) tb_531 (by decide) dX11_isUnder_42 ?_
      refine JJ_zret dX11_isUnder_45 rfl (Or.inr rfl) ?_
      exact ans_i rfl
    · skip
      rw [hkd, b2_f (show ¬ s_under (s_kd 2) (nI 2) = true by decide)]
      refine KK_of2 [(0, .ref a), (1, .int 2)] (by decide +kernel) (Nat.le_of_ble_eq_true rfl) rfl ?_
      refine JJ_iload_n dX11_isUnder_0 rfl rfl ?_
      refine JJ_tabIn (tgt := 41) (2) dX11_isUnder_1 rfl (by decide) rfl (by decide) ?_
      refine JJ_aload_n dX11_isUnder_41 rfl rfl ?_
      refine JJ_instN hs (rfl : vwCl[2]? = some (RX2, TX2, 2)) tb_531 (by decide) dX11_isUnder_42 ?_
      refine JJ_zret dX11_isUnder_45 rfl (Or.inl rfl) ?_
      exact ans_i rfl
    · skip
      rw [hkd, b2_t (show s_under (s_kd 3) (nI 2) = true by decide)]
      refine KK_of2 [(0, .ref a), (1, .int 2)] (by decide +kernel) (Nat.le_of_ble_eq_true rfl) rfl ?_
      refine JJ_iload_n dX11_isUnder_0 rfl rfl ?_
      refine JJ_tabIn (tgt := 41) (2) dX11_isUnder_1 rfl (by decide) rfl (by decide) ?_
      refine JJ_aload_n dX11_isUnder_41 rfl rfl ?_
      refine JJ_instE hs (rfl : vwCl[3]? = some (RX3, TX3, 2)) tb_531 dX11_isUnder_42 ?_
      refine JJ_zret dX11_isUnder_45 rfl (Or.inr rfl) ?_
      exact ans_i rfl
    · skip
      rw [hkd, b2_f (show ¬ s_under (s_kd 4) (nI 2) = true by decide)]
      refine KK_of2 [(0, .ref a), (1, .int 2)] (by decide +kernel) (Nat.le_of_ble_eq_true rfl) rfl ?_
      refine JJ_iload_n dX11_isUnder_0 rfl rfl ?_
      refine JJ_tabIn (tgt := 41) (2) dX11_isUnder_1 rfl (by decide) rfl (by decide) ?_
      refine JJ_aload_n dX11_isUnder_41 rfl rfl ?_
      refine JJ_instN hs (rfl : vwCl[4]? = some (RX4, TX4, 2)) tb_531 (by decide) dX11_isUnder_42 ?_
      refine JJ_zret dX11_isUnder_45 rfl (Or.inl rfl) ?_
      exact ans_i rfl
    · skip
      rw [hkd, b2_f (show ¬ s_under (s_kd 5) (nI 2) = true by decide)]
      refine KK_of2 [(0, .ref a), (1, .int 2)] (by decide +kernel) (Nat.le_of_ble_eq_true rfl) rfl ?_
      refine JJ_iload_n dX11_isUnder_0 rfl rfl ?_
      refine JJ_tabIn (tgt := 41) (2) dX11_isUnder_1 rfl (by decide) rfl (by decide) ?_
      refine JJ_aload_n dX11_isUnder_41 rfl rfl ?_
      refine JJ_instN hs (rfl : vwCl[5]? = some (RX5, TX5, 2)) tb_531 (by decide) dX11_isUnder_42 ?_
      refine JJ_zret dX11_isUnder_45 rfl (Or.inl rfl) ?_
      exact ans_i rfl
    · skip
      rw [hkd, b2_f (show ¬ s_under (s_kd 8) (nI 2) = true by decide)]
      refine KK_of2 [(0, .ref a), (1, .int 2)] (by decide +kernel) (Nat.le_of_ble_eq_true rfl) rfl ?_
      refine JJ_iload_n dX11_isUnder_0 rfl rfl ?_
      refine JJ_tabIn (tgt := 41) (2) dX11_isUnder_1 rfl (by decide) rfl (by decide) ?_
      refine JJ_aload_n dX11_isUnder_41 rfl rfl ?_
      refine JJ_instN hs (rfl : vwCl[8]? = some (RX8, TX8, 2)) tb_531 (by decide) dX11_isUnder_42 ?_
      refine JJ_zret dX11_isUnder_45 rfl (Or.inl rfl) ?_
      exact ans_i rfl
  · skip
    rcases hci with rfl | rfl | rfl | rfl | rfl | rfl
    · skip
      rw [hkd, b2_f (show ¬ s_under (s_kd 0) (nI 3) = true by decide)]
      refine KK_of2 [(0, .ref a), (1, .int 3)] (by decide +kernel) (Nat.le_of_ble_eq_true rfl) rfl ?_
      refine JJ_iload_n dX11_isUnder_0 rfl rfl ?_
      refine JJ_tabIn (tgt := 46) (3) dX11_isUnder_1 rfl (by decide) rfl (by decide) ?_
      refine JJ_aload_n dX11_isUnder_46 rfl rfl ?_
      refine JJ_instN hs (rfl : vwCl[0]? = some (RX0, TX0, 2)) tb_540 (by decide) dX11_isUnder_47 ?_
      refine JJ_zret dX11_isUnder_50 rfl (Or.inl rfl) ?_
      exact ans_i rfl
    · skip
      rw [hkd, b2_f (show ¬ s_under (s_kd 2) (nI 3) = true by decide)]
      refine KK_of2 [(0, .ref a), (1, .int 3)] (by decide +kernel) (Nat.le_of_ble_eq_true rfl) rfl ?_
      refine JJ_iload_n dX11_isUnder_0 rfl rfl ?_
      refine JJ_tabIn (tgt := 46) (3) dX11_isUnder_1 rfl (by decide) rfl (by decide) ?_
      refine JJ_aload_n dX11_isUnder_46 rfl rfl ?_
      refine JJ_instN hs (rfl : vwCl[2]? = some (RX2, TX2, 2)) tb_540 (by decide) dX11_isUnder_47 ?_
      refine JJ_zret dX11_isUnder_50 rfl (Or.inl rfl) ?_
      exact ans_i rfl
    · skip
      rw [hkd, b2_f (show ¬ s_under (s_kd 3) (nI 3) = true by decide)]
      refine KK_of2 [(0, .ref a), (1, .int 3)] (by decide +kernel) (Nat.le_of_ble_eq_true rfl) rfl ?_
      refine JJ_iload_n dX11_isUnder_0 rfl rfl ?_
      refine JJ_tabIn (tgt := 46) (3) dX11_isUnder_1 rfl (by decide) rfl (by decide) ?_
      refine JJ_aload_n dX11_isUnder_46 rfl rfl ?_
      refine JJ_instN hs (rfl : vwCl[3]? = some (RX3, TX3, 2)) tb_540 (by decide) dX11_isUnder_47 ?_
      refine JJ_zret dX11_isUnder_50 rfl (Or.inl rfl) ?_
      exact ans_i rfl
    · skip
      rw [hkd, b2_f (show ¬ s_under (s_kd 4) (nI 3) = true by decide)]
      refine KK_of2 [(0, .ref a), (1, .int 3)] (by decide +kernel) (Nat.le_of_ble_eq_true rfl) rfl ?_
      refine JJ_iload_n dX11_isUnder_0 rfl rfl ?_
      refine JJ_tabIn (tgt := 46) (3) dX11_isUnder_1 rfl (by decide) rfl (by decide) ?_
      refine JJ_aload_n dX11_isUnder_46 rfl rfl ?_
      refine JJ_instN hs (rfl : vwCl[4]? = some (RX4, TX4, 2)) tb_540 (by decide) dX11_isUnder_47 ?_
      refine JJ_zret dX11_isUnder_50 rfl (Or.inl rfl) ?_
      exact ans_i rfl
    · skip
      rw [hkd, b2_t (show s_under (s_kd 5) (nI 3) = true by decide)]
      refine KK_of2 [(0, .ref a), (1, .int 3)] (by decide +kernel) (Nat.le_of_ble_eq_true rfl) rfl ?_
      refine JJ_iload_n dX11_isUnder_0 rfl rfl ?_
      refine JJ_tabIn (tgt := 46) (3) dX11_isUnder_1 rfl (by decide) rfl (by decide) ?_
      refine JJ_aload_n dX11_isUnder_46 rfl rfl ?_
      refine JJ_instE hs (rfl : vwCl[5]? = some (RX5, TX5, 2)) tb_540 dX11_isUnder_47 ?_
      refine JJ_zret dX11_isUnder_50 rfl (Or.inr rfl) ?_
      exact ans_i rfl
    · skip
      rw [hkd, b2_f (show ¬ s_under (s_kd 8) (nI 3) = true by decide)]
      refine KK_of2 [(0, .ref a), (1, .int 3)] (by decide +kernel) (Nat.le_of_ble_eq_true rfl) rfl ?_
      refine JJ_iload_n dX11_isUnder_0 rfl rfl ?_
      refine JJ_tabIn (tgt := 46) (3) dX11_isUnder_1 rfl (by decide) rfl (by decide) ?_
      refine JJ_aload_n dX11_isUnder_46 rfl rfl ?_
      refine JJ_instN hs (rfl : vwCl[8]? = some (RX8, TX8, 2)) tb_540 (by decide) dX11_isUnder_47 ?_
      refine JJ_zret dX11_isUnder_50 rfl (Or.inl rfl) ?_
      exact ans_i rfl
  · skip
    rcases hci with rfl | rfl | rfl | rfl | rfl | rfl
    · skip
      rw [hkd, b2_t (show s_under (s_kd 0) (nI 4) = true by decide)]
      refine KK_of2 [(0, .ref a), (1, .int 4)] (by decide +kernel) (Nat.le_of_ble_eq_true rfl) rfl ?_
      refine JJ_iload_n dX11_isUnder_0 rfl rfl ?_
      refine JJ_tabIn (tgt := 51) (4) dX11_isUnder_1 rfl (by decide) rfl (by decide) ?_
      refine JJ_aload_n dX11_isUnder_51 rfl rfl ?_
      refine JJ_instE hs (rfl : vwCl[0]? = some (RX0, TX0, 2)) tb_549 dX11_isUnder_52 ?_
      refine JJ_zret dX11_isUnder_55 rfl (Or.inr rfl) ?_
      exact ans_i rfl
    · skip
      rw [hkd, b2_f (show ¬ s_under (s_kd 2) (nI 4) = true by decide)]
      refine KK_of2 [(0, .ref a), (1, .int 4)] (by decide +kernel) (Nat.le_of_ble_eq_true rfl) rfl ?_
      refine JJ_iload_n dX11_isUnder_0 rfl rfl ?_
      refine JJ_tabIn (tgt := 51) (4) dX11_isUnder_1 rfl (by decide) rfl (by decide) ?_
      refine JJ_aload_n dX11_isUnder_51 rfl rfl ?_
      refine JJ_instN hs (rfl : vwCl[2]? = some (RX2, TX2, 2)) tb_549 (by decide) dX11_isUnder_52 ?_
      refine JJ_zret dX11_isUnder_55 rfl (Or.inl rfl) ?_
      exact ans_i rfl
    · skip
      rw [hkd, b2_f (show ¬ s_under (s_kd 3) (nI 4) = true by decide)]
      refine KK_of2 [(0, .ref a), (1, .int 4)] (by decide +kernel) (Nat.le_of_ble_eq_true rfl) rfl ?_
      refine JJ_iload_n dX11_isUnder_0 rfl rfl ?_
      refine JJ_tabIn (tgt := 51) (4) dX11_isUnder_1 rfl (by decide) rfl (by decide) ?_
      refine JJ_aload_n dX11_isUnder_51 rfl rfl ?_
      refine JJ_instN hs (rfl : vwCl[3]? = some (RX3, TX3, 2)) tb_549 (by decide) dX11_isUnder_52 ?_
      refine JJ_zret dX11_isUnder_55 rfl (Or.inl rfl) ?_
      exact ans_i rfl
    · skip
      rw [hkd, b2_f (show ¬ s_under (s_kd 4) (nI 4) = true by decide)]
      refine KK_of2 [(0, .ref a), (1, .int 4)] (by decide +kernel) (Nat.le_of_ble_eq_true rfl) rfl ?_
      refine JJ_iload_n dX11_isUnder_0 rfl rfl ?_
      refine JJ_tabIn (tgt := 51) (4) dX11_isUnder_1 rfl (by decide) rfl (by decide) ?_
      refine JJ_aload_n dX11_isUnder_51 rfl rfl ?_
      refine JJ_instN hs (rfl : vwCl[4]? = some (RX4, TX4, 2)) tb_549 (by decide) dX11_isUnder_52 ?_
      refine JJ_zret dX11_isUnder_55 rfl (Or.inl rfl) ?_
      exact ans_i rfl
    · skip
      rw [hkd, b2_f (show ¬ s_under (s_kd 5) (nI 4) = true by decide)]
      refine KK_of2 [(0, .ref a), (1, .int 4)] (by decide +kernel) (Nat.le_of_ble_eq_true rfl) rfl ?_
      refine JJ_iload_n dX11_isUnder_0 rfl rfl ?_
      refine JJ_tabIn (tgt := 51) (4) dX11_isUnder_1 rfl (by decide) rfl (by decide) ?_
      refine JJ_aload_n dX11_isUnder_51 rfl rfl ?_
      refine JJ_instN hs (rfl : vwCl[5]? = some (RX5, TX5, 2)) tb_549 (by decide) dX11_isUnder_52 ?_
      refine JJ_zret dX11_isUnder_55 rfl (Or.inl rfl) ?_
      exact ans_i rfl
    · skip
      rw [hkd, b2_f (show ¬ s_under (s_kd 8) (nI 4) = true by decide)]
      refine KK_of2 [(0, .ref a), (1, .int 4)] (by decide +kernel) (Nat.le_of_ble_eq_true rfl) rfl ?_
      refine JJ_iload_n dX11_isUnder_0 rfl rfl ?_
      refine JJ_tabIn (tgt := 51) (4) dX11_isUnder_1 rfl (by decide) rfl (by decide) ?_
      refine JJ_aload_n dX11_isUnder_51 rfl rfl ?_
      refine JJ_instN hs (rfl : vwCl[8]? = some (RX8, TX8, 2)) tb_549 (by decide) dX11_isUnder_52 ?_
      refine JJ_zret dX11_isUnder_55 rfl (Or.inl rfl) ?_
      exact ans_i rfl
  · skip
    rcases hci with rfl | rfl | rfl | rfl | rfl | rfl
    · skip
      rw [hkd, b2_f (show ¬ s_under (s_kd 0) (nI 5) = true by decide)]
      refine KK_of2 [(0, .ref a), (1, .int 5)] (by decide +kernel) (Nat.le_of_ble_eq_true rfl) rfl ?_
      refine JJ_iload_n dX11_isUnder_0 rfl rfl ?_
      refine JJ_tabIn (tgt := 56) (5) dX11_isUnder_1 rfl (by decide) rfl (by decide) ?_
      refine JJ_aload_n dX11_isUnder_56 rfl rfl ?_
      refine JJ_instN hs (rfl : vwCl[0]? = some (RX0, TX0, 2)) tb_558 (by decide) dX11_isUnder_57 ?_
      refine JJ_zret dX11_isUnder_60 rfl (Or.inl rfl) ?_
      exact ans_i rfl
    · skip
      rw [hkd, b2_t (show s_under (s_kd 2) (nI 5) = true by decide)]
      refine KK_of2 [(0, .ref a), (1, .int 5)] (by decide +kernel) (Nat.le_of_ble_eq_true rfl) rfl ?_
      refine JJ_iload_n dX11_isUnder_0 rfl rfl ?_
      refine JJ_tabIn (tgt := 56) (5) dX11_isUnder_1 rfl (by decide) rfl (by decide) ?_
      refine JJ_aload_n dX11_isUnder_56 rfl rfl ?_
      refine JJ_instE hs (rfl : vwCl[2]? = some (RX2, TX2, 2)) tb_558 dX11_isUnder_57 ?_
      refine JJ_zret dX11_isUnder_60 rfl (Or.inr rfl) ?_
      exact ans_i rfl
    · skip
      rw [hkd, b2_f (show ¬ s_under (s_kd 3) (nI 5) = true by decide)]
      refine KK_of2 [(0, .ref a), (1, .int 5)] (by decide +kernel) (Nat.le_of_ble_eq_true rfl) rfl ?_
      refine JJ_iload_n dX11_isUnder_0 rfl rfl ?_
      refine JJ_tabIn (tgt := 56) (5) dX11_isUnder_1 rfl (by decide) rfl (by decide) ?_
      refine JJ_aload_n dX11_isUnder_56 rfl rfl ?_
      refine JJ_instN hs (rfl : vwCl[3]? = some (RX3, TX3, 2)) tb_558 (by decide) dX11_isUnder_57 ?_
      refine JJ_zret dX11_isUnder_60 rfl (Or.inl rfl) ?_
      exact ans_i rfl
    · skip
      rw [hkd, b2_f (show ¬ s_under (s_kd 4) (nI 5) = true by decide)]
      refine KK_of2 [(0, .ref a), (1, .int 5)] (by decide +kernel) (Nat.le_of_ble_eq_true rfl) rfl ?_
      refine JJ_iload_n dX11_isUnder_0 rfl rfl ?_
      refine JJ_tabIn (tgt := 56) (5) dX11_isUnder_1 rfl (by decide) rfl (by decide) ?_
      refine JJ_aload_n dX11_isUnder_56 rfl rfl ?_
      refine JJ_instN hs (rfl : vwCl[4]? = some (RX4, TX4, 2)) tb_558 (by decide) dX11_isUnder_57 ?_
      refine JJ_zret dX11_isUnder_60 rfl (Or.inl rfl) ?_
      exact ans_i rfl
    · skip
      rw [hkd, b2_f (show ¬ s_under (s_kd 5) (nI 5) = true by decide)]
      refine KK_of2 [(0, .ref a), (1, .int 5)] (by decide +kernel) (Nat.le_of_ble_eq_true rfl) rfl ?_
      refine JJ_iload_n dX11_isUnder_0 rfl rfl ?_
      refine JJ_tabIn (tgt := 56) (5) dX11_isUnder_1 rfl (by decide) rfl (by decide) ?_
      refine JJ_aload_n dX11_isUnder_56 rfl rfl ?_
      refine JJ_instN hs (rfl : vwCl[5]? = some (RX5, TX5, 2)) tb_558 (by decide) dX11_isUnder_57 ?_
      refine JJ_zret dX11_isUnder_60 rfl (Or.inl rfl) ?_
      exact ans_i rfl
    · skip
      rw [hkd, b2_f (show ¬ s_under (s_kd 8) (nI 5) = true by decide)]
      refine KK_of2 [(0, .ref a), (1, .int 5)] (by decide +kernel) (Nat.le_of_ble_eq_true rfl) rfl ?_
      refine JJ_iload_n dX11_isUnder_0 rfl rfl ?_
      refine JJ_tabIn (tgt := 56) (5) dX11_isUnder_1 rfl (by decide) rfl (by decide) ?_
      refine JJ_aload_n dX11_isUnder_56 rfl rfl ?_
      refine JJ_instN hs (rfl : vwCl[8]? = some (RX8, TX8, 2)) tb_558 (by decide) dX11_isUnder_57 ?_
      refine JJ_zret dX11_isUnder_60 rfl (Or.inl rfl) ?_
      exact ans_i rfl
set_option maxHeartbeats 4000000 in
set_option maxRecDepth 100000 in
theorem kc_taken {s k : Int32} (hA : cABS x n S P M A) (hg2 : RNG2 A) (hC : CWF x S P) (hX : HSC x sc) : KK G sc yX11_taken cX11_taken 4 (some .int) 2 0 0 [.ref x, .int s, .int k] (n, S, M, L, P) (ansI (zr_taken A s k) (n, S, M, L, P)) := by
  have hg : RNG A := hg2.1
  have hrl := (rul_lt hg).1
  obtain ⟨cn, hc6, hcA, hcZ⟩ := cnt_e hg
  have h6 := (rul_lt hg).2
  have hct := hA.1
  have hrt := hct.rt hg hA.2.2.1
  have hst := hA.2.2.2.1
  have z0 : (0 : Int32).toInt = 0 := rfl
  have z5 : (5 : Int32).toInt = 5 := rfl
  by_cases hk : 0 ≤ k.toInt ∧ k.toInt ≤ 5
  · skip
    obtain ⟨kk, hk5, rfl⟩ := n_of (m := 5) (by decide) hk
    by_cases hs : isSk A s
    · skip
      obtain ⟨q, hq, rfl⟩ := sk_lt hg hs
      obtain ⟨a, ha, ha1, ha2, hsk⟩ := hst.at hq
      obtain ⟨ci, y1, y2, y3, y4, y5⟩ := id hsk
      have e0 : zr_taken A (nI q) (nI kk) = if s_under (A.1 5 q) (nI kk) = true then A.1 6 q else -13 := (if_neg (fun z => z hk)).trans ((if_neg (fun z => z hs)).trans (by rw [show i2n (nI q) = q from nI_clamp (by omega)]))
      rw [e0]
      refine KK_of2 [(0, .ref x), (1, .int (nI q)), (2, .int (nI kk))] (by decide +kernel) (Nat.le_of_ble_eq_true rfl) rfl ?_
      refine JJ_iload_n dX11_taken_0 rfl rfl ?_
      refine JJ_if_lt (tgt := 9) dX11_taken_1 (by decide) (fun c1 => absurd c1 (nI_nn (by omega))) (fun _ => ?_)
      refine JJ_iload_n dX11_taken_4 rfl rfl ?_
      refine JJ_iconst (v := 5) dX11_taken_5 rfl ?_
      refine JJ_icmp_le (tgt := 12) dX11_taken_6 (by decide) (fun _ => ?_) (fun c2 => absurd (nI_le (b := 5) (by omega) (by omega)) c2)
      refine JJ_aload_n dX11_taken_12 rfl rfl ?_
      refine JJ_iload_n dX11_taken_13 rfl rfl ?_
      refine JJ_callV (rest := []) (congrArg Prod.fst (hC.sh (t := 0) (k := 12) (m := 0) (by decide))) rfl rfl (kc_strokeAt hq ha hst hg hC hX) (by omega) mi_X11_strokeAt lk_X11_129 rfl (Nat.le_of_ble_eq_true rfl) rfl rfl dX11_taken_14 ?_
      intro v3 μ4 h5
      obtain ⟨rfl, rfl⟩ := h5
      refine JJ_r1 ?_
      refine JJ_astore_n (lv' := [(3, .ref a), (0, .ref x), (1, .int (nI q)), (2, .int (nI kk))]) dX11_taken_17 rfl (by decide) rfl ?_
      refine JJ_aload_n dX11_taken_18 rfl rfl ?_
      refine JJ_ifnonnullR (tgt := 25) dX11_taken_19 (by decide) ?_
      refine JJ_aload_n dX11_taken_25 rfl rfl ?_
      refine JJ_iload_n dX11_taken_26 rfl rfl ?_
      refine JJ_callS (rest := []) (kc_isUnder hk5 hsk) (by omega) mi_X11_isUnder lk_X11_284 rfl (Nat.le_of_ble_eq_true rfl) rfl rfl dX11_taken_27 ?_
      intro v6 μ7 h8
      obtain ⟨rfl, rfl⟩ := h8
      refine JJ_r1 ?_
      refine JJ_if_eq (tgt := 40) dX11_taken_30 (by decide) (fun c9 => ?_) (fun c9 => ?_)
      · skip
        refine JJ_bipush (v := (-13)) dX11_taken_40 rfl ?_
        refine JJ_iret dX11_taken_42 rfl ?_
        exact ans_i (if_neg (b2_0.mp c9)).symm
      · skip
        refine JJ_aload_n dX11_taken_33 rfl rfl ?_
        refine JJ_geti (v := A.1 6 q) (cis := [0, 2, 3, 4, 5, 8]) (k := 0) fa_X11_256 (by rcases y1 with rfl | rfl | rfl | rfl | rfl | rfl <;> decide) y2 (by rcases y1 with rfl | rfl | rfl | rfl | rfl | rfl <;> rfl) (hX.2.1 _ _ (by omega)) y4 dX11_taken_34 ?_
        refine JJ_goto (tgt := 42) dX11_taken_37 (by decide) ?_
        refine JJ_iret dX11_taken_42 rfl ?_
        exact ans_i (if_pos (b2_n.mp c9)).symm
    · skip
      have e0 : zr_taken A s (nI kk) = -11 := (if_neg (fun z => z hk)).trans (if_pos hs)
      rw [e0]
      refine KK_of2 [(0, .ref x), (1, .int s), (2, .int (nI kk))] (by decide +kernel) (Nat.le_of_ble_eq_true rfl) rfl ?_
      refine JJ_iload_n dX11_taken_0 rfl rfl ?_
      refine JJ_if_lt (tgt := 9) dX11_taken_1 (by decide) (fun c10 => absurd c10 (nI_nn (by omega))) (fun _ => ?_)
      refine JJ_iload_n dX11_taken_4 rfl rfl ?_
      refine JJ_iconst (v := 5) dX11_taken_5 rfl ?_
      refine JJ_icmp_le (tgt := 12) dX11_taken_6 (by decide) (fun _ => ?_) (fun c11 => absurd (nI_le (b := 5) (by omega) (by omega)) c11)
      refine JJ_aload_n dX11_taken_12 rfl rfl ?_
      refine JJ_iload_n dX11_taken_13 rfl rfl ?_
      refine JJ_callV (rest := []) (congrArg Prod.fst (hC.sh (t := 0) (k := 12) (m := 0) (by decide))) rfl rfl (kc_strokeNo hs hst hg hC hX) (by omega) mi_X11_strokeAt lk_X11_129 rfl (Nat.le_of_ble_eq_true rfl) rfl rfl dX11_taken_14 ?_
      intro v12 μ13 h14
      obtain ⟨rfl, rfl⟩ := h14
      refine JJ_r1 ?_
      refine JJ_astore_nN (lv' := [(3, .null), (0, .ref x), (1, .int s), (2, .int (nI kk))]) dX11_taken_17 rfl (by decide) rfl ?_
      refine JJ_aload_nN dX11_taken_18 rfl rfl ?_
      refine JJ_ifnonnullN dX11_taken_19 ?_
      refine JJ_bipush (v := (-11)) dX11_taken_22 rfl ?_
      refine JJ_iret dX11_taken_24 rfl ?_
      exact ans_i rfl
  · skip
    have e0 : zr_taken A s k = -2 := if_pos hk
    rw [e0]
    refine KK_of2 [(0, .ref x), (1, .int s), (2, .int k)] (by decide +kernel) (Nat.le_of_ble_eq_true rfl) rfl ?_
    refine JJ_iload_n dX11_taken_0 rfl rfl ?_
    refine JJ_if_lt (tgt := 9) dX11_taken_1 (by decide) (fun c15 => ?_) (fun c15 => ?_)
    · skip
      refine JJ_bipush (v := (-2)) dX11_taken_9 rfl ?_
      refine JJ_iret dX11_taken_11 rfl ?_
      exact ans_i rfl
    · skip
      refine JJ_iload_n dX11_taken_4 rfl rfl ?_
      refine JJ_iconst (v := 5) dX11_taken_5 rfl ?_
      refine JJ_icmp_le (tgt := 12) dX11_taken_6 (by decide) (fun c16 => absurd c16 (fun y => by have y1 := c15; rw [i_lt] at y1; rw [i_le] at y; omega)) (fun _ => ?_)
      refine JJ_bipush (v := (-2)) dX11_taken_9 rfl ?_
      refine JJ_iret dX11_taken_11 rfl ?_
      exact ans_i rfl
theorem CTA_up {c k p : Nat} {v : Int32} {M1 : Nat → Nat → Int32} (hc : CTA x c P M A) (hk : k < 4) (hp : p < 2) (h : M1 = up2 M (c + 1 + p) k v) : CTA x c P M1 (zUp A k p v) := by
  have hb : ∀ k' p', k' < 4 → p' < 2 → M (c + 1 + p') k' = A.1 k' p' := by
    intro k' p' h1 h2
    rcases (by omega : k' = 0 ∨ k' = 1 ∨ k' = 2 ∨ k' = 3) with rfl | rfl | rfl | rfl
    · exact hc.c0 h2
    · exact hc.c1 h2
    · exact hc.c2 h2
    · exact hc.c3 h2
  have he : ∀ k' p', k' < 4 → p' < 2 → M1 (c + 1 + p') k' = (zUp A k p v).1 k' p' := by
    intro k' p' h1 h2
    by_cases e : k' = k ∧ p' = p
    · obtain ⟨rfl, rfl⟩ := e
      exact (rd_s h).trans zUp_e.symm
    · rw [zUp_n e]
      exact rd_n h (by omega) (hb k' p' h1 h2)
  refine ⟨hc.1, fun p' hp' => ⟨he 0 p' (by decide) hp', he 1 p' (by decide) hp', he 2 p' (by decide) hp', he 3 p' (by decide) hp'⟩, ?_, ?_⟩
  · rw [zUp_n (by omega)]
    exact rd_n h (by omega) hc.w
  · rw [zUp_n (by omega)]
    exact hc.2.2.2
set_option maxHeartbeats 4000000 in
set_option maxRecDepth 100000 in
theorem kc_set {what s v : Int32} (hA : cABS x n S P M A) (hg2 : RNG2 A) (hC : CWF x S P) (hX : HSC x sc) : KK G sc yX11_set cX11_set 5 (some .int) 8 0 0 [.ref x, .int what, .int s, .int v] (n, S, M, L, P) (cI x n S M P (.int (zr_set A what s v).1) (zr_set A what s v).2) := by
  have hg : RNG A := hg2.1
  have hrl := (rul_lt hg).1
  obtain ⟨cn, hc6, hcA, hcZ⟩ := cnt_e hg
  have h6 := (rul_lt hg).2
  have hct := hA.1
  have hrt := hct.rt hg hA.2.2.1
  have hst := hA.2.2.2.1
  by_cases hf : ((0 ≤ what.toInt ∧ what.toInt ≤ 6) ∧ s_lo (i2n what) ≤ v.toInt ∧ v.toInt ≤ s_hi (i2n what))
  · skip
    obtain ⟨k, hk, rfl⟩ := n_of (m := 6) (by decide) hf.1
    rcases (by omega : k = 0 ∨ k = 1 ∨ k = 2 ∨ k = 3 ∨ k = 4 ∨ k = 5 ∨ k = 6) with rfl | rfl | rfl | rfl | rfl | rfl | rfl
    · skip
      by_cases hs : isPl s
      · skip
        obtain ⟨p, hp1, rfl⟩ := n_of (m := 1) (by decide) hs
        have hp : p < 2 := by omega
        have e0 : zr_set A (nI 0) (nI p) v = (A.1 0 p, zUp A 0 p v) := (if_pos ⟨by decide, Or.inr (show zokof A (i2n (nI 0)) (nI p) from hs), hf.2⟩).trans ((if_neg (by decide)).trans (by rw [show i2n (nI p) = p from nI_clamp (by omega)]; rfl))
        rw [e0]
        refine KK_of2 [(0, .ref x), (1, .int 0), (2, .int (nI p)), (3, .int v)] (by decide +kernel) (Nat.le_of_ble_eq_true rfl) rfl ?_
        refine JJ_iload_n dX11_set_0 rfl rfl ?_
        refine JJ_iload_n dX11_set_1 rfl rfl ?_
        refine JJ_callS (rest := []) (kc_fits) (by omega) mi_X11_fits lk_X11_108 rfl (Nat.le_of_ble_eq_true rfl) rfl rfl dX11_set_2 ?_
        intro v1 μ2 h3
        obtain ⟨rfl, rfl⟩ := h3
        refine JJ_r1 ?_
        refine JJ_eqi (x2 := 1) (b2_t hf) ?_
        refine JJ_if_ne (tgt := 11) dX11_set_5 (by decide) (fun _ => ?_) (fun c4 => absurd c4 (by decide))
        refine JJ_iload_n dX11_set_11 rfl rfl ?_
        refine JJ_bipush (v := 6) dX11_set_12 rfl ?_
        refine JJ_icmp_ne (tgt := 37) dX11_set_14 (by decide) (fun _ => ?_) (fun c5 => absurd c5 (by decide))
        refine JJ_iload_n dX11_set_37 rfl rfl ?_
        refine JJ_iconst (v := 3) dX11_set_38 rfl ?_
        refine JJ_icmp_gt (tgt := 68) dX11_set_39 (by decide) (fun c6 => absurd c6 (by decide)) (fun _ => ?_)
        refine JJ_iload_n dX11_set_42 rfl rfl ?_
        refine JJ_callS (rest := []) (kc_isPlayer) (by omega) mi_X11_isPlayer lk_X11_115 rfl (Nat.le_of_ble_eq_true rfl) rfl rfl dX11_set_43 ?_
        intro v7 μ8 h9
        obtain ⟨rfl, rfl⟩ := h9
        refine JJ_r1 ?_
        refine JJ_eqi (x2 := 1) (b2_t hs) ?_
        refine JJ_if_eq (tgt := 65) dX11_set_46 (by decide) (fun c10 => absurd c10 (by decide)) (fun _ => ?_)
        refine JJ_aload_n dX11_set_49 rfl rfl ?_
        refine JJ_getr (q := x + 40) (cis := [11]) (k := 5) fa_X11_97 (by decide) (congrArg Prod.fst (hC.sh (t := 0) (k := 12) (m := 0) (by decide))) rfl (hC.rf (t := 0) (s := 5) (u := 40) (by decide)) dX11_set_50 ?_
        refine JJ_iload_n dX11_set_53 rfl rfl ?_
        refine JJ_callV (rest := []) (congrArg Prod.fst (hC.2.2.2.1 0 (by decide)).1) rfl rfl (kc_one (c := x + 40) (p := p) hp hrt hC hX) (by omega) mi_X1_one lk_X11_119 rfl (Nat.le_of_ble_eq_true rfl) rfl rfl dX11_set_54 ?_
        intro v11 μ12 h13
        obtain ⟨rfl, rfl⟩ := h13
        refine JJ_r1 ?_
        refine JJ_iload_n dX11_set_57 rfl rfl ?_
        refine JJ_iload_n dX11_set_58 rfl rfl ?_
        refine JJ_callV (rest := []) (hrt.pl hC (p := p) (by omega)) rfl rfl (kc_change (q := 0) (by decide) (hrt.pl hC (p := p) (by omega)) (fun k => hX.1 _ _ (by omega) (by omega) (by omega))) (by omega) mi_X6_change lk_X11_123 rfl (Nat.le_of_ble_eq_true rfl) rfl rfl dX11_set_59 ?_
        intro v14 μ15 h16
        obtain ⟨rfl, rfl⟩ := h16
        refine JJ_r1 ?_
        refine JJ_goto (tgt := 67) dX11_set_62 (by decide) ?_
        refine JJ_iret dX11_set_67 rfl ?_
        exact cI_m (by rw [hct.c0 hp]) (cABS_court hA h6 (CTA_up hct (k := 0) (by decide) hp rfl) (fun b k z1 z2 => zUp_n (by omega)) rfl (fun b k _ _ _ z => up2_n (by omega)) (fun _ _ _ _ _ _ => rfl) hA.2.2.2.2.2.2.2) hC (fun b k z => up2_n (fun e => z (by unfold cF; omega)))
      · skip
        have e0 : zr_set A (nI 0) s v = (-100, A) := if_neg (fun z => z.2.1.elim (by decide) (fun q => hs (show zokof A (i2n (nI 0)) s from q)))
        rw [e0]
        refine KK_of2 [(0, .ref x), (1, .int 0), (2, .int s), (3, .int v)] (by decide +kernel) (Nat.le_of_ble_eq_true rfl) rfl ?_
        refine JJ_iload_n dX11_set_0 rfl rfl ?_
        refine JJ_iload_n dX11_set_1 rfl rfl ?_
        refine JJ_callS (rest := []) (kc_fits) (by omega) mi_X11_fits lk_X11_108 rfl (Nat.le_of_ble_eq_true rfl) rfl rfl dX11_set_2 ?_
        intro v17 μ18 h19
        obtain ⟨rfl, rfl⟩ := h19
        refine JJ_r1 ?_
        refine JJ_eqi (x2 := 1) (b2_t hf) ?_
        refine JJ_if_ne (tgt := 11) dX11_set_5 (by decide) (fun _ => ?_) (fun c20 => absurd c20 (by decide))
        refine JJ_iload_n dX11_set_11 rfl rfl ?_
        refine JJ_bipush (v := 6) dX11_set_12 rfl ?_
        refine JJ_icmp_ne (tgt := 37) dX11_set_14 (by decide) (fun _ => ?_) (fun c21 => absurd c21 (by decide))
        refine JJ_iload_n dX11_set_37 rfl rfl ?_
        refine JJ_iconst (v := 3) dX11_set_38 rfl ?_
        refine JJ_icmp_gt (tgt := 68) dX11_set_39 (by decide) (fun c22 => absurd c22 (by decide)) (fun _ => ?_)
        refine JJ_iload_n dX11_set_42 rfl rfl ?_
        refine JJ_callS (rest := []) (kc_isPlayer) (by omega) mi_X11_isPlayer lk_X11_115 rfl (Nat.le_of_ble_eq_true rfl) rfl rfl dX11_set_43 ?_
        intro v23 μ24 h25
        obtain ⟨rfl, rfl⟩ := h25
        refine JJ_r1 ?_
        refine JJ_eqi (x2 := 0) (b2_f hs) ?_
        refine JJ_if_eq (tgt := 65) dX11_set_46 (by decide) (fun _ => ?_) (fun c26 => absurd (by decide) c26)
        refine JJ_bipush (v := (-100)) dX11_set_65 rfl ?_
        refine JJ_iret dX11_set_67 rfl ?_
        exact cI_q rfl hA hC
    · skip
      by_cases hs : isPl s
      · skip
        obtain ⟨p, hp1, rfl⟩ := n_of (m := 1) (by decide) hs
        have hp : p < 2 := by omega
        have e0 : zr_set A (nI 1) (nI p) v = (A.1 1 p, zUp A 1 p v) := (if_pos ⟨by decide, Or.inr (show zokof A (i2n (nI 1)) (nI p) from hs), hf.2⟩).trans ((if_neg (by decide)).trans (by rw [show i2n (nI p) = p from nI_clamp (by omega)]; rfl))
        rw [e0]
        refine KK_of2 [(0, .ref x), (1, .int 1), (2, .int (nI p)), (3, .int v)] (by decide +kernel) (Nat.le_of_ble_eq_true rfl) rfl ?_
        refine JJ_iload_n dX11_set_0 rfl rfl ?_
        refine JJ_iload_n dX11_set_1 rfl rfl ?_
        refine JJ_callS (rest := []) (kc_fits) (by omega) mi_X11_fits lk_X11_108 rfl (Nat.le_of_ble_eq_true rfl) rfl rfl dX11_set_2 ?_
        intro v27 μ28 h29
        obtain ⟨rfl, rfl⟩ := h29
        refine JJ_r1 ?_
        refine JJ_eqi (x2 := 1) (b2_t hf) ?_
        refine JJ_if_ne (tgt := 11) dX11_set_5 (by decide) (fun _ => ?_) (fun c30 => absurd c30 (by decide))
        refine JJ_iload_n dX11_set_11 rfl rfl ?_
        refine JJ_bipush (v := 6) dX11_set_12 rfl ?_
        refine JJ_icmp_ne (tgt := 37) dX11_set_14 (by decide) (fun _ => ?_) (fun c31 => absurd c31 (by decide))
        refine JJ_iload_n dX11_set_37 rfl rfl ?_
        refine JJ_iconst (v := 3) dX11_set_38 rfl ?_
        refine JJ_icmp_gt (tgt := 68) dX11_set_39 (by decide) (fun c32 => absurd c32 (by decide)) (fun _ => ?_)
        refine JJ_iload_n dX11_set_42 rfl rfl ?_
        refine JJ_callS (rest := []) (kc_isPlayer) (by omega) mi_X11_isPlayer lk_X11_115 rfl (Nat.le_of_ble_eq_true rfl) rfl rfl dX11_set_43 ?_
        intro v33 μ34 h35
        obtain ⟨rfl, rfl⟩ := h35
        refine JJ_r1 ?_
        refine JJ_eqi (x2 := 1) (b2_t hs) ?_
        refine JJ_if_eq (tgt := 65) dX11_set_46 (by decide) (fun c36 => absurd c36 (by decide)) (fun _ => ?_)
        refine JJ_aload_n dX11_set_49 rfl rfl ?_
        refine JJ_getr (q := x + 40) (cis := [11]) (k := 5) fa_X11_97 (by decide) (congrArg Prod.fst (hC.sh (t := 0) (k := 12) (m := 0) (by decide))) rfl (hC.rf (t := 0) (s := 5) (u := 40) (by decide)) dX11_set_50 ?_
        refine JJ_iload_n dX11_set_53 rfl rfl ?_
        refine JJ_callV (rest := []) (congrArg Prod.fst (hC.2.2.2.1 0 (by decide)).1) rfl rfl (kc_one (c := x + 40) (p := p) hp hrt hC hX) (by omega) mi_X1_one lk_X11_119 rfl (Nat.le_of_ble_eq_true rfl) rfl rfl dX11_set_54 ?_
        intro v37 μ38 h39
        obtain ⟨rfl, rfl⟩ := h39
        refine JJ_r1 ?_
        refine JJ_iload_n dX11_set_57 rfl rfl ?_
        refine JJ_iload_n dX11_set_58 rfl rfl ?_
        refine JJ_callV (rest := []) (hrt.pl hC (p := p) (by omega)) rfl rfl (kc_change (q := 1) (by decide) (hrt.pl hC (p := p) (by omega)) (fun k => hX.1 _ _ (by omega) (by omega) (by omega))) (by omega) mi_X6_change lk_X11_123 rfl (Nat.le_of_ble_eq_true rfl) rfl rfl dX11_set_59 ?_
        intro v40 μ41 h42
        obtain ⟨rfl, rfl⟩ := h42
        refine JJ_r1 ?_
        refine JJ_goto (tgt := 67) dX11_set_62 (by decide) ?_
        refine JJ_iret dX11_set_67 rfl ?_
        exact cI_m (by rw [hct.c1 hp]) (cABS_court hA h6 (CTA_up hct (k := 1) (by decide) hp rfl) (fun b k z1 z2 => zUp_n (by omega)) rfl (fun b k _ _ _ z => up2_n (by omega)) (fun _ _ _ _ _ _ => rfl) hA.2.2.2.2.2.2.2) hC (fun b k z => up2_n (fun e => z (by unfold cF; omega)))
      · skip
        have e0 : zr_set A (nI 1) s v = (-100, A) := if_neg (fun z => z.2.1.elim (by decide) (fun q => hs (show zokof A (i2n (nI 1)) s from q)))
        rw [e0]
        refine KK_of2 [(0, .ref x), (1, .int 1), (2, .int s), (3, .int v)] (by decide +kernel) (Nat.le_of_ble_eq_true rfl) rfl ?_
        refine JJ_iload_n dX11_set_0 rfl rfl ?_
        refine JJ_iload_n dX11_set_1 rfl rfl ?_
        refine JJ_callS (rest := []) (kc_fits) (by omega) mi_X11_fits lk_X11_108 rfl (Nat.le_of_ble_eq_true rfl) rfl rfl dX11_set_2 ?_
        intro v43 μ44 h45
        obtain ⟨rfl, rfl⟩ := h45
        refine JJ_r1 ?_
        refine JJ_eqi (x2 := 1) (b2_t hf) ?_
        refine JJ_if_ne (tgt := 11) dX11_set_5 (by decide) (fun _ => ?_) (fun c46 => absurd c46 (by decide))
        refine JJ_iload_n dX11_set_11 rfl rfl ?_
        refine JJ_bipush (v := 6) dX11_set_12 rfl ?_
        refine JJ_icmp_ne (tgt := 37) dX11_set_14 (by decide) (fun _ => ?_) (fun c47 => absurd c47 (by decide))
        refine JJ_iload_n dX11_set_37 rfl rfl ?_
        refine JJ_iconst (v := 3) dX11_set_38 rfl ?_
        refine JJ_icmp_gt (tgt := 68) dX11_set_39 (by decide) (fun c48 => absurd c48 (by decide)) (fun _ => ?_)
        refine JJ_iload_n dX11_set_42 rfl rfl ?_
        refine JJ_callS (rest := []) (kc_isPlayer) (by omega) mi_X11_isPlayer lk_X11_115 rfl (Nat.le_of_ble_eq_true rfl) rfl rfl dX11_set_43 ?_
        intro v49 μ50 h51
        obtain ⟨rfl, rfl⟩ := h51
        refine JJ_r1 ?_
        refine JJ_eqi (x2 := 0) (b2_f hs) ?_
        refine JJ_if_eq (tgt := 65) dX11_set_46 (by decide) (fun _ => ?_) (fun c52 => absurd (by decide) c52)
        refine JJ_bipush (v := (-100)) dX11_set_65 rfl ?_
        refine JJ_iret dX11_set_67 rfl ?_
        exact cI_q rfl hA hC
    · skip
      by_cases hs : isPl s
      · skip
        obtain ⟨p, hp1, rfl⟩ := n_of (m := 1) (by decide) hs
        have hp : p < 2 := by omega
        have e0 : zr_set A (nI 2) (nI p) v = (A.1 2 p, zUp A 2 p v) := (if_pos ⟨by decide, Or.inr (show zokof A (i2n (nI 2)) (nI p) from hs), hf.2⟩).trans ((if_neg (by decide)).trans (by rw [show i2n (nI p) = p from nI_clamp (by omega)]; rfl))
        rw [e0]
        refine KK_of2 [(0, .ref x), (1, .int 2), (2, .int (nI p)), (3, .int v)] (by decide +kernel) (Nat.le_of_ble_eq_true rfl) rfl ?_
        refine JJ_iload_n dX11_set_0 rfl rfl ?_
        refine JJ_iload_n dX11_set_1 rfl rfl ?_
        refine JJ_callS (rest := []) (kc_fits) (by omega) mi_X11_fits lk_X11_108 rfl (Nat.le_of_ble_eq_true rfl) rfl rfl dX11_set_2 ?_
        intro v53 μ54 h55
        obtain ⟨rfl, rfl⟩ := h55
        refine JJ_r1 ?_
        refine JJ_eqi (x2 := 1) (b2_t hf) ?_
        refine JJ_if_ne (tgt := 11) dX11_set_5 (by decide) (fun _ => ?_) (fun c56 => absurd c56 (by decide))
        refine JJ_iload_n dX11_set_11 rfl rfl ?_
        refine JJ_bipush (v := 6) dX11_set_12 rfl ?_
        refine JJ_icmp_ne (tgt := 37) dX11_set_14 (by decide) (fun _ => ?_) (fun c57 => absurd c57 (by decide))
        refine JJ_iload_n dX11_set_37 rfl rfl ?_
        refine JJ_iconst (v := 3) dX11_set_38 rfl ?_
        refine JJ_icmp_gt (tgt := 68) dX11_set_39 (by decide) (fun c58 => absurd c58 (by decide)) (fun _ => ?_)
        refine JJ_iload_n dX11_set_42 rfl rfl ?_
        refine JJ_callS (rest := []) (kc_isPlayer) (by omega) mi_X11_isPlayer lk_X11_115 rfl (Nat.le_of_ble_eq_true rfl) rfl rfl dX11_set_43 ?_
        intro v59 μ60 h61
        obtain ⟨rfl, rfl⟩ := h61
        refine JJ_r1 ?_
        refine JJ_eqi (x2 := 1) (b2_t hs) ?_
        refine JJ_if_eq (tgt := 65) dX11_set_46 (by decide) (fun c62 => absurd c62 (by decide)) (fun _ => ?_)
        refine JJ_aload_n dX11_set_49 rfl rfl ?_
        refine JJ_getr (q := x + 40) (cis := [11]) (k := 5) fa_X11_97 (by decide) (congrArg Prod.fst (hC.sh (t := 0) (k := 12) (m := 0) (by decide))) rfl (hC.rf (t := 0) (s := 5) (u := 40) (by decide)) dX11_set_50 ?_
        refine JJ_iload_n dX11_set_53 rfl rfl ?_
        refine JJ_callV (rest := []) (congrArg Prod.fst (hC.2.2.2.1 0 (by decide)).1) rfl rfl (kc_one (c := x + 40) (p := p) hp hrt hC hX) (by omega) mi_X1_one lk_X11_119 rfl (Nat.le_of_ble_eq_true rfl) rfl rfl dX11_set_54 ?_
        intro v63 μ64 h65
        obtain ⟨rfl, rfl⟩ := h65
        refine JJ_r1 ?_
        refine JJ_iload_n dX11_set_57 rfl rfl ?_
        refine JJ_iload_n dX11_set_58 rfl rfl ?_
        refine JJ_callV (rest := []) (hrt.pl hC (p := p) (by omega)) rfl rfl (kc_change (q := 2) (by decide) (hrt.pl hC (p := p) (by omega)) (fun k => hX.1 _ _ (by omega) (by omega) (by omega))) (by omega) mi_X6_change lk_X11_123 rfl (Nat.le_of_ble_eq_true rfl) rfl rfl dX11_set_59 ?_
        intro v66 μ67 h68
        obtain ⟨rfl, rfl⟩ := h68
        refine JJ_r1 ?_
        refine JJ_goto (tgt := 67) dX11_set_62 (by decide) ?_
        refine JJ_iret dX11_set_67 rfl ?_
        exact cI_m (by rw [hct.c2 hp]) (cABS_court hA h6 (CTA_up hct (k := 2) (by decide) hp rfl) (fun b k z1 z2 => zUp_n (by omega)) rfl (fun b k _ _ _ z => up2_n (by omega)) (fun _ _ _ _ _ _ => rfl) hA.2.2.2.2.2.2.2) hC (fun b k z => up2_n (fun e => z (by unfold cF; omega)))
      · skip
        have e0 : zr_set A (nI 2) s v = (-100, A) := if_neg (fun z => z.2.1.elim (by decide) (fun q => hs (show zokof A (i2n (nI 2)) s from q)))
        rw [e0]
        refine KK_of2 [(0, .ref x), (1, .int 2), (2, .int s), (3, .int v)] (by decide +kernel) (Nat.le_of_ble_eq_true rfl) rfl ?_
        refine JJ_iload_n dX11_set_0 rfl rfl ?_
        refine JJ_iload_n dX11_set_1 rfl rfl ?_
        refine JJ_callS (rest := []) (kc_fits) (by omega) mi_X11_fits lk_X11_108 rfl (Nat.le_of_ble_eq_true rfl) rfl rfl dX11_set_2 ?_
        intro v69 μ70 h71
        obtain ⟨rfl, rfl⟩ := h71
        refine JJ_r1 ?_
        refine JJ_eqi (x2 := 1) (b2_t hf) ?_
        refine JJ_if_ne (tgt := 11) dX11_set_5 (by decide) (fun _ => ?_) (fun c72 => absurd c72 (by decide))
        refine JJ_iload_n dX11_set_11 rfl rfl ?_
        refine JJ_bipush (v := 6) dX11_set_12 rfl ?_
        refine JJ_icmp_ne (tgt := 37) dX11_set_14 (by decide) (fun _ => ?_) (fun c73 => absurd c73 (by decide))
        refine JJ_iload_n dX11_set_37 rfl rfl ?_
        refine JJ_iconst (v := 3) dX11_set_38 rfl ?_
        refine JJ_icmp_gt (tgt := 68) dX11_set_39 (by decide) (fun c74 => absurd c74 (by decide)) (fun _ => ?_)
        refine JJ_iload_n dX11_set_42 rfl rfl ?_
        refine JJ_callS (rest := []) (kc_isPlayer) (by omega) mi_X11_isPlayer lk_X11_115 rfl (Nat.le_of_ble_eq_true rfl) rfl rfl dX11_set_43 ?_
        intro v75 μ76 h77
        obtain ⟨rfl, rfl⟩ := h77
        refine JJ_r1 ?_
        refine JJ_eqi (x2 := 0) (b2_f hs) ?_
        refine JJ_if_eq (tgt := 65) dX11_set_46 (by decide) (fun _ => ?_) (fun c78 => absurd (by decide) c78)
        refine JJ_bipush (v := (-100)) dX11_set_65 rfl ?_
        refine JJ_iret dX11_set_67 rfl ?_
        exact cI_q rfl hA hC
    · skip
      by_cases hs : isPl s
      · skip
        obtain ⟨p, hp1, rfl⟩ := n_of (m := 1) (by decide) hs
        have hp : p < 2 := by omega
        have e0 : zr_set A (nI 3) (nI p) v = (A.1 3 p, zUp A 3 p v) := (if_pos ⟨by decide, Or.inr (show zokof A (i2n (nI 3)) (nI p) from hs), hf.2⟩).trans ((if_neg (by decide)).trans (by rw [show i2n (nI p) = p from nI_clamp (by omega)]; rfl))
        rw [e0]
        refine KK_of2 [(0, .ref x), (1, .int 3), (2, .int (nI p)), (3, .int v)] (by decide +kernel) (Nat.le_of_ble_eq_true rfl) rfl ?_
        refine JJ_iload_n dX11_set_0 rfl rfl ?_
        refine JJ_iload_n dX11_set_1 rfl rfl ?_
        refine JJ_callS (rest := []) (kc_fits) (by omega) mi_X11_fits lk_X11_108 rfl (Nat.le_of_ble_eq_true rfl) rfl rfl dX11_set_2 ?_
        intro v79 μ80 h81
        obtain ⟨rfl, rfl⟩ := h81
        refine JJ_r1 ?_
        refine JJ_eqi (x2 := 1) (b2_t hf) ?_
        refine JJ_if_ne (tgt := 11) dX11_set_5 (by decide) (fun _ => ?_) (fun c82 => absurd c82 (by decide))
        refine JJ_iload_n dX11_set_11 rfl rfl ?_
        refine JJ_bipush (v := 6) dX11_set_12 rfl ?_
        refine JJ_icmp_ne (tgt := 37) dX11_set_14 (by decide) (fun _ => ?_) (fun c83 => absurd c83 (by decide))
        refine JJ_iload_n dX11_set_37 rfl rfl ?_
        refine JJ_iconst (v := 3) dX11_set_38 rfl ?_
        refine JJ_icmp_gt (tgt := 68) dX11_set_39 (by decide) (fun c84 => absurd c84 (by decide)) (fun _ => ?_)
        refine JJ_iload_n dX11_set_42 rfl rfl ?_
        refine JJ_callS (rest := []) (kc_isPlayer) (by omega) mi_X11_isPlayer lk_X11_115 rfl (Nat.le_of_ble_eq_true rfl) rfl rfl dX11_set_43 ?_
        intro v85 μ86 h87
        obtain ⟨rfl, rfl⟩ := h87
        refine JJ_r1 ?_
        refine JJ_eqi (x2 := 1) (b2_t hs) ?_
        refine JJ_if_eq (tgt := 65) dX11_set_46 (by decide) (fun c88 => absurd c88 (by decide)) (fun _ => ?_)
        refine JJ_aload_n dX11_set_49 rfl rfl ?_
        refine JJ_getr (q := x + 40) (cis := [11]) (k := 5) fa_X11_97 (by decide) (congrArg Prod.fst (hC.sh (t := 0) (k := 12) (m := 0) (by decide))) rfl (hC.rf (t := 0) (s := 5) (u := 40) (by decide)) dX11_set_50 ?_
        refine JJ_iload_n dX11_set_53 rfl rfl ?_
        refine JJ_callV (rest := []) (congrArg Prod.fst (hC.2.2.2.1 0 (by decide)).1) rfl rfl (kc_one (c := x + 40) (p := p) hp hrt hC hX) (by omega) mi_X1_one lk_X11_119 rfl (Nat.le_of_ble_eq_true rfl) rfl rfl dX11_set_54 ?_
        intro v89 μ90 h91
        obtain ⟨rfl, rfl⟩ := h91
        refine JJ_r1 ?_
        refine JJ_iload_n dX11_set_57 rfl rfl ?_
        refine JJ_iload_n dX11_set_58 rfl rfl ?_
        refine JJ_callV (rest := []) (hrt.pl hC (p := p) (by omega)) rfl rfl (kc_change (q := 3) (by decide) (hrt.pl hC (p := p) (by omega)) (fun k => hX.1 _ _ (by omega) (by omega) (by omega))) (by omega) mi_X6_change lk_X11_123 rfl (Nat.le_of_ble_eq_true rfl) rfl rfl dX11_set_59 ?_
        intro v92 μ93 h94
        obtain ⟨rfl, rfl⟩ := h94
        refine JJ_r1 ?_
        refine JJ_goto (tgt := 67) dX11_set_62 (by decide) ?_
        refine JJ_iret dX11_set_67 rfl ?_
        exact cI_m (by rw [hct.c3 hp]) (cABS_court hA h6 (CTA_up hct (k := 3) (by decide) hp rfl) (fun b k z1 z2 => zUp_n (by omega)) rfl (fun b k _ _ _ z => up2_n (by omega)) (fun _ _ _ _ _ _ => rfl) hA.2.2.2.2.2.2.2) hC (fun b k z => up2_n (fun e => z (by unfold cF; omega)))
      · skip
        have e0 : zr_set A (nI 3) s v = (-100, A) := if_neg (fun z => z.2.1.elim (by decide) (fun q => hs (show zokof A (i2n (nI 3)) s from q)))
        rw [e0]
        refine KK_of2 [(0, .ref x), (1, .int 3), (2, .int s), (3, .int v)] (by decide +kernel) (Nat.le_of_ble_eq_true rfl) rfl ?_
        refine JJ_iload_n dX11_set_0 rfl rfl ?_
        refine JJ_iload_n dX11_set_1 rfl rfl ?_
        refine JJ_callS (rest := []) (kc_fits) (by omega) mi_X11_fits lk_X11_108 rfl (Nat.le_of_ble_eq_true rfl) rfl rfl dX11_set_2 ?_
        intro v95 μ96 h97
        obtain ⟨rfl, rfl⟩ := h97
        refine JJ_r1 ?_
        refine JJ_eqi (x2 := 1) (b2_t hf) ?_
        refine JJ_if_ne (tgt := 11) dX11_set_5 (by decide) (fun _ => ?_) (fun c98 => absurd c98 (by decide))
        refine JJ_iload_n dX11_set_11 rfl rfl ?_
        refine JJ_bipush (v := 6) dX11_set_12 rfl ?_
        refine JJ_icmp_ne (tgt := 37) dX11_set_14 (by decide) (fun _ => ?_) (fun c99 => absurd c99 (by decide))
        refine JJ_iload_n dX11_set_37 rfl rfl ?_
        refine JJ_iconst (v := 3) dX11_set_38 rfl ?_
        refine JJ_icmp_gt (tgt := 68) dX11_set_39 (by decide) (fun c100 => absurd c100 (by decide)) (fun _ => ?_)
        refine JJ_iload_n dX11_set_42 rfl rfl ?_
        refine JJ_callS (rest := []) (kc_isPlayer) (by omega) mi_X11_isPlayer lk_X11_115 rfl (Nat.le_of_ble_eq_true rfl) rfl rfl dX11_set_43 ?_
        intro v101 μ102 h103
        obtain ⟨rfl, rfl⟩ := h103
        refine JJ_r1 ?_
        refine JJ_eqi (x2 := 0) (b2_f hs) ?_
        refine JJ_if_eq (tgt := 65) dX11_set_46 (by decide) (fun _ => ?_) (fun c104 => absurd (by decide) c104)
        refine JJ_bipush (v := (-100)) dX11_set_65 rfl ?_
        refine JJ_iret dX11_set_67 rfl ?_
        exact cI_q rfl hA hC
    · skip
      by_cases hs : isSk A s
      · skip
        obtain ⟨q, hq, rfl⟩ := sk_lt hg hs
        obtain ⟨a, ha, ha1, ha2, hsk⟩ := hst.at hq
        obtain ⟨ci, y1, y2, y3, y4, y5⟩ := id hsk
        have e0 : zr_set A (nI 4) (nI q) v = (A.1 6 q, zUp A 6 q v) := (if_pos ⟨by decide, Or.inr (show zokof A (i2n (nI 4)) (nI q) from hs), hf.2⟩).trans ((if_neg (by decide)).trans (by rw [show i2n (nI q) = q from nI_clamp (by omega)]; rfl))
        rw [e0]
        refine KK_of2 [(0, .ref x), (1, .int 4), (2, .int (nI q)), (3, .int v)] (by decide +kernel) (Nat.le_of_ble_eq_true rfl) rfl ?_
        refine JJ_iload_n dX11_set_0 rfl rfl ?_
        refine JJ_iload_n dX11_set_1 rfl rfl ?_
        refine JJ_callS (rest := []) (kc_fits) (by omega) mi_X11_fits lk_X11_108 rfl (Nat.le_of_ble_eq_true rfl) rfl rfl dX11_set_2 ?_
        intro v105 μ106 h107
        obtain ⟨rfl, rfl⟩ := h107
        refine JJ_r1 ?_
        refine JJ_eqi (x2 := 1) (b2_t hf) ?_
        refine JJ_if_ne (tgt := 11) dX11_set_5 (by decide) (fun _ => ?_) (fun c108 => absurd c108 (by decide))
        refine JJ_iload_n dX11_set_11 rfl rfl ?_
        refine JJ_bipush (v := 6) dX11_set_12 rfl ?_
        refine JJ_icmp_ne (tgt := 37) dX11_set_14 (by decide) (fun _ => ?_) (fun c109 => absurd c109 (by decide))
        refine JJ_iload_n dX11_set_37 rfl rfl ?_
        refine JJ_iconst (v := 3) dX11_set_38 rfl ?_
        refine JJ_icmp_gt (tgt := 68) dX11_set_39 (by decide) (fun _ => ?_) (fun c110 => absurd (by decide) c110)
        refine JJ_aload_n dX11_set_68 rfl rfl ?_
        refine JJ_iload_n dX11_set_69 rfl rfl ?_
        refine JJ_callV (rest := []) (congrArg Prod.fst (hC.sh (t := 0) (k := 12) (m := 0) (by decide))) rfl rfl (kc_strokeAt hq ha hst hg hC hX) (by omega) mi_X11_strokeAt lk_X11_129 rfl (Nat.le_of_ble_eq_true rfl) rfl rfl dX11_set_70 ?_
        intro v111 μ112 h113
        obtain ⟨rfl, rfl⟩ := h113
        refine JJ_r1 ?_
        refine JJ_astore (lv' := [(4, .ref a), (0, .ref x), (1, .int 4), (2, .int (nI q)), (3, .int v)]) dX11_set_73 (by decide) rfl ?_
        refine JJ_aload dX11_set_75 rfl ?_
        refine JJ_ifnonnullR (tgt := 85) dX11_set_77 (by decide) ?_
        refine JJ_aload dX11_set_85 rfl ?_
        refine JJ_iload_n dX11_set_87 rfl rfl ?_
        refine JJ_iload_n dX11_set_88 rfl rfl ?_
        refine ju_X11_133 hsk rfl (fun k => hX.2.1 _ _ ha1) (by omega) (Nat.le_of_ble_eq_true rfl) dX11_set_89 (fun M1 hM1 => ?_)
        refine JJ_iret dX11_set_92 rfl ?_
        have hM2 : M1 = up2 M a 0 v := hM1
        exact cI_m (by rw [if_pos rfl, y4]) (cABS_stk hA h6 hq (t := 0) (by decide) ha hM2) hC (fun b k z => rd_n hM2 (fun e => z (by unfold cF; omega)) rfl)
      · skip
        have e0 : zr_set A (nI 4) s v = (-100, A) := if_neg (fun z => z.2.1.elim (by decide) (fun q => hs (show zokof A (i2n (nI 4)) s from q)))
        rw [e0]
        refine KK_of2 [(0, .ref x), (1, .int 4), (2, .int s), (3, .int v)] (by decide +kernel) (Nat.le_of_ble_eq_true rfl) rfl ?_
        refine JJ_iload_n dX11_set_0 rfl rfl ?_
        refine JJ_iload_n dX11_set_1 rfl rfl ?_
        refine JJ_callS (rest := []) (kc_fits) (by omega) mi_X11_fits lk_X11_108 rfl (Nat.le_of_ble_eq_true rfl) rfl rfl dX11_set_2 ?_
        intro v114 μ115 h116
        obtain ⟨rfl, rfl⟩ := h116
        refine JJ_r1 ?_
        refine JJ_eqi (x2 := 1) (b2_t hf) ?_
        refine JJ_if_ne (tgt := 11) dX11_set_5 (by decide) (fun _ => ?_) (fun c117 => absurd c117 (by decide))
        refine JJ_iload_n dX11_set_11 rfl rfl ?_
        refine JJ_bipush (v := 6) dX11_set_12 rfl ?_
        refine JJ_icmp_ne (tgt := 37) dX11_set_14 (by decide) (fun _ => ?_) (fun c118 => absurd c118 (by decide))
        refine JJ_iload_n dX11_set_37 rfl rfl ?_
        refine JJ_iconst (v := 3) dX11_set_38 rfl ?_
        refine JJ_icmp_gt (tgt := 68) dX11_set_39 (by decide) (fun _ => ?_) (fun c119 => absurd (by decide) c119)
        refine JJ_aload_n dX11_set_68 rfl rfl ?_
        refine JJ_iload_n dX11_set_69 rfl rfl ?_
        refine JJ_callV (rest := []) (congrArg Prod.fst (hC.sh (t := 0) (k := 12) (m := 0) (by decide))) rfl rfl (kc_strokeNo hs hst hg hC hX) (by omega) mi_X11_strokeAt lk_X11_129 rfl (Nat.le_of_ble_eq_true rfl) rfl rfl dX11_set_70 ?_
        intro v120 μ121 h122
        obtain ⟨rfl, rfl⟩ := h122
        refine JJ_r1 ?_
        refine JJ_astoreN (lv' := [(4, .null), (0, .ref x), (1, .int 4), (2, .int s), (3, .int v)]) dX11_set_73 (by decide) rfl ?_
        refine JJ_aloadN dX11_set_75 rfl ?_
        refine JJ_ifnonnullN dX11_set_77 ?_
        refine JJ_bipush (v := (-100)) dX11_set_80 rfl ?_
        refine JJ_goto (tgt := 92) dX11_set_82 (by decide) ?_
        refine JJ_iret dX11_set_92 rfl ?_
        exact cI_q rfl hA hC
    · skip
      by_cases hs : isSk A s
      · skip
        obtain ⟨q, hq, rfl⟩ := sk_lt hg hs
        obtain ⟨a, ha, ha1, ha2, hsk⟩ := hst.at hq
        obtain ⟨ci, y1, y2, y3, y4, y5⟩ := id hsk
        have e0 : zr_set A (nI 5) (nI q) v = (A.1 7 q, zUp A 7 q v) := (if_pos ⟨by decide, Or.inr (show zokof A (i2n (nI 5)) (nI q) from hs), hf.2⟩).trans ((if_neg (by decide)).trans (by rw [show i2n (nI q) = q from nI_clamp (by omega)]; rfl))
        rw [e0]
        refine KK_of2 [(0, .ref x), (1, .int 5), (2, .int (nI q)), (3, .int v)] (by decide +kernel) (Nat.le_of_ble_eq_true rfl) rfl ?_
        refine JJ_iload_n dX11_set_0 rfl rfl ?_
        refine JJ_iload_n dX11_set_1 rfl rfl ?_
        refine JJ_callS (rest := []) (kc_fits) (by omega) mi_X11_fits lk_X11_108 rfl (Nat.le_of_ble_eq_true rfl) rfl rfl dX11_set_2 ?_
        intro v123 μ124 h125
        obtain ⟨rfl, rfl⟩ := h125
        refine JJ_r1 ?_
        refine JJ_eqi (x2 := 1) (b2_t hf) ?_
        refine JJ_if_ne (tgt := 11) dX11_set_5 (by decide) (fun _ => ?_) (fun c126 => absurd c126 (by decide))
        refine JJ_iload_n dX11_set_11 rfl rfl ?_
        refine JJ_bipush (v := 6) dX11_set_12 rfl ?_
        refine JJ_icmp_ne (tgt := 37) dX11_set_14 (by decide) (fun _ => ?_) (fun c127 => absurd c127 (by decide))
        refine JJ_iload_n dX11_set_37 rfl rfl ?_
        refine JJ_iconst (v := 3) dX11_set_38 rfl ?_
        refine JJ_icmp_gt (tgt := 68) dX11_set_39 (by decide) (fun _ => ?_) (fun c128 => absurd (by decide) c128)
        refine JJ_aload_n dX11_set_68 rfl rfl ?_
        refine JJ_iload_n dX11_set_69 rfl rfl ?_
        refine JJ_callV (rest := []) (congrArg Prod.fst (hC.sh (t := 0) (k := 12) (m := 0) (by decide))) rfl rfl (kc_strokeAt hq ha hst hg hC hX) (by omega) mi_X11_strokeAt lk_X11_129 rfl (Nat.le_of_ble_eq_true rfl) rfl rfl dX11_set_70 ?_
        intro v129 μ130 h131
        obtain ⟨rfl, rfl⟩ := h131
        refine JJ_r1 ?_
        refine JJ_astore (lv' := [(4, .ref a), (0, .ref x), (1, .int 5), (2, .int (nI q)), (3, .int v)]) dX11_set_73 (by decide) rfl ?_
        refine JJ_aload dX11_set_75 rfl ?_
        refine JJ_ifnonnullR (tgt := 85) dX11_set_77 (by decide) ?_
        refine JJ_aload dX11_set_85 rfl ?_
        refine JJ_iload_n dX11_set_87 rfl rfl ?_
        refine JJ_iload_n dX11_set_88 rfl rfl ?_
        refine ju_X11_133 hsk rfl (fun k => hX.2.1 _ _ ha1) (by omega) (Nat.le_of_ble_eq_true rfl) dX11_set_89 (fun M1 hM1 => ?_)
        refine JJ_iret dX11_set_92 rfl ?_
        have hM2 : M1 = up2 M a 1 v := hM1
        exact cI_m (by rw [if_neg (by decide), y5]) (cABS_stk hA h6 hq (t := 1) (by decide) ha hM2) hC (fun b k z => rd_n hM2 (fun e => z (by unfold cF; omega)) rfl)
      · skip
        have e0 : zr_set A (nI 5) s v = (-100, A) := if_neg (fun z => z.2.1.elim (by decide) (fun q => hs (show zokof A (i2n (nI 5)) s from q)))
        rw [e0]
        refine KK_of2 [(0, .ref x), (1, .int 5), (2, .int s), (3, .int v)] (by decide +kernel) (Nat.le_of_ble_eq_true rfl) rfl ?_
        refine JJ_iload_n dX11_set_0 rfl rfl ?_
        refine JJ_iload_n dX11_set_1 rfl rfl ?_
        refine JJ_callS (rest := []) (kc_fits) (by omega) mi_X11_fits lk_X11_108 rfl (Nat.le_of_ble_eq_true rfl) rfl rfl dX11_set_2 ?_
        intro v132 μ133 h134
        obtain ⟨rfl, rfl⟩ := h134
        refine JJ_r1 ?_
        refine JJ_eqi (x2 := 1) (b2_t hf) ?_
        refine JJ_if_ne (tgt := 11) dX11_set_5 (by decide) (fun _ => ?_) (fun c135 => absurd c135 (by decide))
        refine JJ_iload_n dX11_set_11 rfl rfl ?_
        refine JJ_bipush (v := 6) dX11_set_12 rfl ?_
        refine JJ_icmp_ne (tgt := 37) dX11_set_14 (by decide) (fun _ => ?_) (fun c136 => absurd c136 (by decide))
        refine JJ_iload_n dX11_set_37 rfl rfl ?_
        refine JJ_iconst (v := 3) dX11_set_38 rfl ?_
        refine JJ_icmp_gt (tgt := 68) dX11_set_39 (by decide) (fun _ => ?_) (fun c137 => absurd (by decide) c137)
        refine JJ_aload_n dX11_set_68 rfl rfl ?_
        refine JJ_iload_n dX11_set_69 rfl rfl ?_
        refine JJ_callV (rest := []) (congrArg Prod.fst (hC.sh (t := 0) (k := 12) (m := 0) (by decide))) rfl rfl (kc_strokeNo hs hst hg hC hX) (by omega) mi_X11_strokeAt lk_X11_129 rfl (Nat.le_of_ble_eq_true rfl) rfl rfl dX11_set_70 ?_
        intro v138 μ139 h140
        obtain ⟨rfl, rfl⟩ := h140
        refine JJ_r1 ?_
        refine JJ_astoreN (lv' := [(4, .null), (0, .ref x), (1, .int 5), (2, .int s), (3, .int v)]) dX11_set_73 (by decide) rfl ?_
        refine JJ_aloadN dX11_set_75 rfl ?_
        refine JJ_ifnonnullN dX11_set_77 ?_
        refine JJ_bipush (v := (-100)) dX11_set_80 rfl ?_
        refine JJ_goto (tgt := 92) dX11_set_82 (by decide) ?_
        refine JJ_iret dX11_set_92 rfl ?_
        exact cI_q rfl hA hC
    · skip
      have e0 : zr_set A (nI 6) s v = (A.1 4 0, zUp A 4 0 v) := (if_pos ⟨by decide, Or.inl rfl, hf.2⟩).trans (if_pos rfl)
      rw [e0]
      refine KK_of2 [(0, .ref x), (1, .int 6), (2, .int s), (3, .int v)] (by decide +kernel) (Nat.le_of_ble_eq_true rfl) rfl ?_
      refine JJ_iload_n dX11_set_0 rfl rfl ?_
      refine JJ_iload_n dX11_set_1 rfl rfl ?_
      refine JJ_callS (rest := []) (kc_fits) (by omega) mi_X11_fits lk_X11_108 rfl (Nat.le_of_ble_eq_true rfl) rfl rfl dX11_set_2 ?_
      intro v141 μ142 h143
      obtain ⟨rfl, rfl⟩ := h143
      refine JJ_r1 ?_
      refine JJ_eqi (x2 := 1) (b2_t hf) ?_
      refine JJ_if_ne (tgt := 11) dX11_set_5 (by decide) (fun _ => ?_) (fun c144 => absurd c144 (by decide))
      refine JJ_iload_n dX11_set_11 rfl rfl ?_
      refine JJ_bipush (v := 6) dX11_set_12 rfl ?_
      refine JJ_icmp_ne (tgt := 37) dX11_set_14 (by decide) (fun c145 => absurd (by decide) c145) (fun _ => ?_)
      refine JJ_aload_n dX11_set_17 rfl rfl ?_
      refine JJ_getr (q := x + 40) (cis := [11]) (k := 5) fa_X11_97 (by decide) (congrArg Prod.fst (hC.sh (t := 0) (k := 12) (m := 0) (by decide))) rfl (hC.rf (t := 0) (s := 5) (u := 40) (by decide)) dX11_set_18 ?_
      refine JJ_geti (v := A.1 4 0) (cis := [1]) (k := 2) fa_X11_112 (by decide) (congrArg Prod.fst (hC.2.2.2.1 0 (by decide)).1) rfl (hX.1 _ _ (by omega) (by omega) (by omega)) hct.w dX11_set_21 ?_
      refine JJ_istore (lv' := [(4, .int (A.1 4 0)), (0, .ref x), (1, .int 6), (2, .int s), (3, .int v)]) dX11_set_24 (by decide) rfl ?_
      refine JJ_aload_n dX11_set_26 rfl rfl ?_
      refine JJ_getr (q := x + 40) (cis := [11]) (k := 5) fa_X11_97 (by decide) (congrArg Prod.fst (hC.sh (t := 0) (k := 12) (m := 0) (by decide))) rfl (hC.rf (t := 0) (s := 5) (u := 40) (by decide)) dX11_set_27 ?_
      refine JJ_iload_n dX11_set_30 rfl rfl ?_
      refine JJ_puti (cis := [1]) (k := 2) fa_X11_112 (by decide) (congrArg Prod.fst (hC.2.2.2.1 0 (by decide)).1) rfl (fun r hr => by cases hr; exact ⟨rfl, by decide +kernel⟩) dX11_set_31 (fun M146 hM147 => ?_)
      refine JJ_iload dX11_set_34 rfl ?_
      refine JJ_iret dX11_set_36 rfl ?_
      have hcA' : CTA x (x + 40) P M146 (zUp A 4 0 v) := by
        refine ⟨hct.1, fun p hp => ?_, ?_, ?_⟩
        · rw [zUp_n (by omega), zUp_n (by omega), zUp_n (by omega), zUp_n (by omega)]
          rw [show M146 (x + 40 + 1 + p) = M (x + 40 + 1 + p) from funext fun k => rd_n hM147 (by omega) rfl]
          exact hct.2.1 p hp
        · exact (rd_s hM147).trans zUp_e.symm
        · rw [zUp_n (by omega)]; exact hct.2.2.2
      exact cI_m rfl (cABS_court hA h6 hcA' (fun b k z1 z2 => zUp_n (by omega)) rfl (fun b k _ _ _ z => rd_n hM147 (by omega) rfl) (fun _ _ _ _ _ _ => rfl) hA.2.2.2.2.2.2.2) hC (fun b k z => rd_n hM147 (fun e => z (by unfold cF; omega)) rfl)
  · skip
    have e0 : zr_set A what s v = (-100, A) := if_neg (fun z => hf ⟨z.1, z.2.2⟩)
    rw [e0]
    refine KK_of2 [(0, .ref x), (1, .int what), (2, .int s), (3, .int v)] (by decide +kernel) (Nat.le_of_ble_eq_true rfl) rfl ?_
    refine JJ_iload_n dX11_set_0 rfl rfl ?_
    refine JJ_iload_n dX11_set_1 rfl rfl ?_
    refine JJ_callS (rest := []) (kc_fits) (by omega) mi_X11_fits lk_X11_108 rfl (Nat.le_of_ble_eq_true rfl) rfl rfl dX11_set_2 ?_
    intro v148 μ149 h150
    obtain ⟨rfl, rfl⟩ := h150
    refine JJ_r1 ?_
    refine JJ_eqi (x2 := 0) (b2_f hf) ?_
    refine JJ_if_ne (tgt := 11) dX11_set_5 (by decide) (fun c151 => absurd (by decide) c151) (fun _ => ?_)
    refine JJ_bipush (v := (-100)) dX11_set_8 rfl ?_
    refine JJ_iret dX11_set_10 rfl ?_
    exact cI_q rfl hA hC
end C11
