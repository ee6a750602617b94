section LW4
variable {G : Gx} {b Ln : Nat} {xs : Nat → Int32} {x : Nat}

theorem CIN.keep {S S' : Nat → Nat × Nat} {M M' : Nat → Nat → Int32} {P P' : Nat → Nat → Option Nat} (h : CIN x S M P) (hS : ∀ b, b < x + 75 → S' b = S b) (hM : ∀ b k, b < x + 75 → M' b k = M b k) (hP : ∀ b k, b < x + 75 → P' b k = P b k) : CIN x S' M' P' := by
  obtain ⟨h1, h2, h3, h4, h5, m2, m4, m11, m1⟩ := h
  exact ⟨h1.more (fun b z1 z2 => hS b z2) (fun b k z1 z2 z3 => hP b k z2), h2.keep (fun b z1 z2 => hS b (by omega)) (fun b k z1 z2 => hP b k (by omega)) (fun k z => hP _ _ (by omega)) (fun j z => hM _ _ (by omega)), h3.keep (fun b z1 z2 => hS b (by omega)) (fun b k z1 z2 => hP b k (by omega)) (fun k z => hP _ _ (by omega)) (fun b k z1 z2 => hM b k (by omega)), h4.keep (fun b k z1 z2 => hM b k (by omega)) (hP _ _ (by omega)) (fun k => hP _ _ (by omega)), h5.keep (fun k => hM _ _ (by omega)) (fun k => hM _ _ (by omega)), (hM _ _ (by omega)).trans m2, (hM _ _ (by omega)).trans m4, (hM _ _ (by omega)).trans m11, (hM _ _ (by omega)).trans m1⟩
set_option maxHeartbeats 4000000 in
set_option maxRecDepth 100000 in
/-- the loop's head: out, or in -/
theorem lw_head {sc : Nat → Nat → Prop} {kc ks i : Nat} {μ : Mem} (hL : Ln ≤ 3072) (hi : i ≤ 5000) (k : i + 6 ≤ Ln → LL G sc b Ln xs kc ks 27 [(3, .int (nI i)), (2, .ref (x + 75)), (1, .ref x), (0, .ref b)] [] μ) : LL G sc b Ln xs kc ks 18 [(3, .int (nI i)), (2, .ref (x + 75)), (1, .ref x), (0, .ref b)] [] μ := by
  refine LL_iload_n dL_law_18 rfl rfl ?_
  refine LL_aload_n dL_law_19 rfl rfl ?_
  refine LL_slen dL_law_20 ?_
  refine LL_bipush (v := 6) dL_law_21 rfl ?_
  refine LL_isub dL_law_23 ?_
  have e6 : (nI Ln - 6).toInt = (Ln : Int) - 6 := pk_sub_toInt (a := Ln) (b := 6) (by omega) (by omega)
  have ei : (nI i).toInt = (i : Int) := nI_toInt (by omega)
  refine LL_icmp_gt (tgt := 1109) dL_law_24 (by decide) (fun _ => ?_) (fun c => k (by rw [i_lt] at c; omega))
  refine LL_iconst (v := 1) dL_law_1109 rfl ?_
  exact LL_ret dL_law_1110
set_option maxHeartbeats 4000000 in
set_option maxRecDepth 100000 in
/-- a turn of the loop -/
theorem lw_turn {d i n : Nat} {S : Nat → Nat × Nat} {M : Nat → Nat → Int32} {L : Nat → Nat → Int64} {P : Nat → Nat → Option Nat} {A : Abs} (hI : LINV x n S M P A) (hL : Ln ≤ 3072) (hi : i + 6 ≤ Ln) (kend : ∀ (n : Nat) (S : Nat → Nat × Nat) (M : Nat → Nat → Int32) (L : Nat → Nat → Int64) (P : Nat → Nat → Option Nat) (A : Abs), LINV x n S M P A → LL G (lsc x) b Ln xs (6 * d) (12 * d) 1103 [(3, .int (nI i)), (2, .ref (x + 75)), (1, .ref x), (0, .ref b)] [] (n, S, M, L, P)) : LL G (lsc x) b Ln xs (6 * (d + 1)) (12 * (d + 1)) 27 [(3, .int (nI i)), (2, .ref (x + 75)), (1, .ref x), (0, .ref b)] [] (n, S, M, L, P) := by
  refine LL_aload_n dL_law_27 rfl rfl ?_
  refine LL_iload_n dL_law_28 rfl rfl ?_
  refine LL_sld (j := i) rfl (by omega) hL dL_law_29 ?_
  refine LL_bipush (v := 31) dL_law_30 rfl ?_
  refine LL_iand dL_law_32 ?_
  by_cases c0 : xs i &&& 31 = 0
  · refine LL_tabIn (tgt := 164) 0 dL_law_33 (by rw [c0]; rfl) (by decide) rfl (by decide) ?_
    exact lw_set hI hL hi kend
  by_cases c1 : xs i &&& 31 = 1
  · refine LL_tabIn (tgt := 207) 1 dL_law_33 (by rw [c1]; rfl) (by decide) rfl (by decide) ?_
    exact lw_stroke hI hL hi kend
  by_cases c2 : xs i &&& 31 = 2
  · refine LL_tabIn (tgt := 250) 2 dL_law_33 (by rw [c2]; rfl) (by decide) rfl (by decide) ?_
    exact lw_told hI hL hi kend
  by_cases c3 : xs i &&& 31 = 3
  · refine LL_tabIn (tgt := 283) 3 dL_law_33 (by rw [c3]; rfl) (by decide) rfl (by decide) ?_
    exact lw_shot hI hL hi kend
  by_cases c4 : xs i &&& 31 = 4
  · refine LL_tabIn (tgt := 326) 4 dL_law_33 (by rw [c4]; rfl) (by decide) rfl (by decide) ?_
    exact lw_needs hI hL hi kend
  by_cases c5 : xs i &&& 31 = 5
  · refine LL_tabIn (tgt := 359) 5 dL_law_33 (by rw [c5]; rfl) (by decide) rfl (by decide) ?_
    exact lw_feed hI hL hi kend
  by_cases c6 : xs i &&& 31 = 6
  · refine LL_tabIn (tgt := 382) 6 dL_law_33 (by rw [c6]; rfl) (by decide) rfl (by decide) ?_
    exact lw_text hI hL hi kend
  by_cases c7 : xs i &&& 31 = 7
  · refine LL_tabIn (tgt := 395) 7 dL_law_33 (by rw [c7]; rfl) (by decide) rfl (by decide) ?_
    exact lw_force hI hL hi kend
  by_cases c8 : xs i &&& 31 = 8
  · refine LL_tabIn (tgt := 418) 8 dL_law_33 (by rw [c8]; rfl) (by decide) rfl (by decide) ?_
    exact lw_rally hI hL hi kend
  by_cases c9 : xs i &&& 31 = 9
  · refine LL_tabIn (tgt := 451) 9 dL_law_33 (by rw [c9]; rfl) (by decide) rfl (by decide) ?_
    exact lw_play hI hL hi kend
  by_cases c10 : xs i &&& 31 = 10
  · refine LL_tabIn (tgt := 474) 10 dL_law_33 (by rw [c10]; rfl) (by decide) rfl (by decide) ?_
    exact lw_likely hI hL hi kend
  by_cases c11 : xs i &&& 31 = 11
  · refine LL_tabIn (tgt := 498) 11 dL_law_33 (by rw [c11]; rfl) (by decide) rfl (by decide) ?_
    exact lw_best hI hL hi kend
  by_cases c12 : xs i &&& 31 = 12
  · refine LL_tabIn (tgt := 541) 12 dL_law_33 (by rw [c12]; rfl) (by decide) rfl (by decide) ?_
    exact lw_sure hI hL hi kend
  by_cases c13 : xs i &&& 31 = 13
  · refine LL_tabIn (tgt := 564) 13 dL_law_33 (by rw [c13]; rfl) (by decide) rfl (by decide) ?_
    exact lw_stand hI hL hi kend
  by_cases c14 : xs i &&& 31 = 14
  · refine LL_tabIn (tgt := 597) 14 dL_law_33 (by rw [c14]; rfl) (by decide) rfl (by decide) ?_
    exact lw_tires hI hL hi kend
  by_cases c15 : xs i &&& 31 = 15
  · refine LL_tabIn (tgt := 620) 15 dL_law_33 (by rw [c15]; rfl) (by decide) rfl (by decide) ?_
    exact lw_inTheWay hI hL hi kend
  by_cases c16 : xs i &&& 31 = 16
  · refine LL_tabIn (tgt := 643) 16 dL_law_33 (by rw [c16]; rfl) (by decide) rfl (by decide) ?_
    exact lw_balls hI hL hi kend
  by_cases c17 : xs i &&& 31 = 17
  · refine LL_tabIn (tgt := 676) 17 dL_law_33 (by rw [c17]; rfl) (by decide) rfl (by decide) ?_
    exact lw_quicks hI hL hi kend
  by_cases c18 : xs i &&& 31 = 18
  · refine LL_tabIn (tgt := 719) 18 dL_law_33 (by rw [c18]; rfl) (by decide) rfl (by decide) ?_
    exact lw_film hI hL hi kend
  by_cases c19 : xs i &&& 31 = 19
  · refine LL_tabIn (tgt := 752) 19 dL_law_33 (by rw [c19]; rfl) (by decide) rfl (by decide) ?_
    exact lw_drawn hI hL hi kend
  by_cases c20 : xs i &&& 31 = 20
  · refine LL_tabIn (tgt := 775) 20 dL_law_33 (by rw [c20]; rfl) (by decide) rfl (by decide) ?_
    exact lw_chance hI hL hi kend
  by_cases c21 : xs i &&& 31 = 21
  · refine LL_tabIn (tgt := 819) 21 dL_law_33 (by rw [c21]; rfl) (by decide) rfl (by decide) ?_
    exact lw_image hI hL hi kend
  by_cases c22 : xs i &&& 31 = 22
  · refine LL_tabIn (tgt := 832) 22 dL_law_33 (by rw [c22]; rfl) (by decide) rfl (by decide) ?_
    exact lw_back hI hL hi kend
  by_cases c23 : xs i &&& 31 = 23
  · refine LL_tabIn (tgt := 845) 23 dL_law_33 (by rw [c23]; rfl) (by decide) rfl (by decide) ?_
    exact lw_count hI hL hi kend
  by_cases c24 : xs i &&& 31 = 24
  · refine LL_tabIn (tgt := 868) 24 dL_law_33 (by rw [c24]; rfl) (by decide) rfl (by decide) ?_
    exact lw_sheet hI hL hi kend
  by_cases c25 : xs i &&& 31 = 25
  · refine LL_tabIn (tgt := 911) 25 dL_law_33 (by rw [c25]; rfl) (by decide) rfl (by decide) ?_
    exact lw_cell hI hL hi kend
  by_cases c26 : xs i &&& 31 = 26
  · refine LL_tabIn (tgt := 954) 26 dL_law_33 (by rw [c26]; rfl) (by decide) rfl (by decide) ?_
    exact lw_copy hI hL hi kend
  by_cases c27 : xs i &&& 31 = 27
  · refine LL_tabIn (tgt := 1017) 27 dL_law_33 (by rw [c27]; rfl) (by decide) rfl (by decide) ?_
    exact lw_strokes hI hL hi kend
  by_cases c28 : xs i &&& 31 = 28
  · refine LL_tabIn (tgt := 1070) 28 dL_law_33 (by rw [c28]; rfl) (by decide) rfl (by decide) ?_
    exact lw_taken hI hL hi kend
  refine LL_tabOut (tgt := 1103) dL_law_33 (by have z0 := lv_neT c0 (a := 0) rfl; have z1 := lv_neT c1 (a := 1) rfl; have z2 := lv_neT c2 (a := 2) rfl; have z3 := lv_neT c3 (a := 3) rfl; have z4 := lv_neT c4 (a := 4) rfl; have z5 := lv_neT c5 (a := 5) rfl; have z6 := lv_neT c6 (a := 6) rfl; have z7 := lv_neT c7 (a := 7) rfl; have z8 := lv_neT c8 (a := 8) rfl; have z9 := lv_neT c9 (a := 9) rfl; have z10 := lv_neT c10 (a := 10) rfl; have z11 := lv_neT c11 (a := 11) rfl; have z12 := lv_neT c12 (a := 12) rfl; have z13 := lv_neT c13 (a := 13) rfl; have z14 := lv_neT c14 (a := 14) rfl; have z15 := lv_neT c15 (a := 15) rfl; have z16 := lv_neT c16 (a := 16) rfl; have z17 := lv_neT c17 (a := 17) rfl; have z18 := lv_neT c18 (a := 18) rfl; have z19 := lv_neT c19 (a := 19) rfl; have z20 := lv_neT c20 (a := 20) rfl; have z21 := lv_neT c21 (a := 21) rfl; have z22 := lv_neT c22 (a := 22) rfl; have z23 := lv_neT c23 (a := 23) rfl; have z24 := lv_neT c24 (a := 24) rfl; have z25 := lv_neT c25 (a := 25) rfl; have z26 := lv_neT c26 (a := 26) rfl; have z27 := lv_neT c27 (a := 27) rfl; have z28 := lv_neT c28 (a := 28) rfl; omega) (by decide) ?_
  exact LL.fewer (by omega) (by omega) (kend _ _ _ _ _ _ hI)
set_option maxHeartbeats 4000000 in
set_option maxRecDepth 100000 in
/-- the loop -/
theorem lw_loop (hL : Ln ≤ 3072) : ∀ (d i : Nat), Ln ≤ i + 6 * d + 5 → i ≤ 3072 → ∀ (n : Nat) (S : Nat → Nat × Nat) (M : Nat → Nat → Int32) (L : Nat → Nat → Int64) (P : Nat → Nat → Option Nat) (A : Abs), LINV x n S M P A → LL G (lsc x) b Ln xs (6 * d) (12 * d) 18 [(3, .int (nI i)), (2, .ref (x + 75)), (1, .ref x), (0, .ref b)] [] (n, S, M, L, P) := by
  intro d
  induction d with
  | zero =>
    intro i hd hi n S M L P A hI
    exact lw_head hL (by omega) (fun h => absurd h (by omega))
  | succ d ih =>
    intro i hd hi n S M L P A hI
    refine lw_head hL (by omega) (fun h => lw_turn hI hL h (fun n S M L P A hI2 => ?_))
    refine LL_iinc (v := nI (i + 6)) (lv' := [(3, .int (nI (i + 6))), (2, .ref (x + 75)), (1, .ref x), (0, .ref b)]) dL_law_1103 rfl (nI_add i 6) (by decide) rfl ?_
    refine LL_goto (tgt := 18) dL_law_1106 (by decide) ?_
    exact ih (i + 6) (by omega) (by omega) n S M L P A hI2
set_option maxHeartbeats 4000000 in
set_option maxRecDepth 100000 in
/-- the law's body from its first place -/
theorem lw_body (hL : Ln ≤ 3072) {L : Nat → Nat → Int64} {S : Nat → Nat × Nat} {M : Nat → Nat → Int32} {P : Nat → Nat → Option Nat} : LL G (lsc x) b Ln xs 600000 7302250 0 [(0, .ref b)] [] (x, S, M, L, P) := by
  refine LL_new (ci := 11) (kc' := 599999) (ks' := 7302231) (rfl : vwCl[11]? = some (RX11, TX11, 19)) tb_86 tb_87 tb_66 rfl rfl dL_law_0 ?_
  refine LL_dup dL_law_3 rfl ?_
  refine LL_callI (kc' := 599925) (ks' := 7299699) (rest := [.ref x]) rfl (kc_init (x := x) (gS_s rfl) lsc_c) (by decide) mi_X11_init lk_L_9 rfl (Nat.le_of_ble_eq_true rfl) rfl rfl dL_law_4 ?_
  intro v1 μ1 h1
  obtain ⟨rfl, S1, M1, L1, P1, rfl, hI1, hF1⟩ := h1
  refine LL_r0 ?_
  refine LL_astore_n (lv' := [(1, .ref x), (0, .ref b)]) dL_law_7 rfl (by decide) rfl ?_
  refine LL_new (ci := 12) (kc' := 599924) (ks' := 7299648) (rfl : vwCl[12]? = some (RX12, TX12, 51)) tb_923 tb_924 tb_76 rfl rfl dL_law_8 ?_
  refine LL_dup dL_law_11 rfl ?_
  refine LL_callI (kc' := 599906) (ks' := 7298204) (rest := [.ref (x + 75)]) rfl (kr_init (o := x + 75) (gS_s rfl) (fun k => gR_s rfl)) (by decide) mi_X12_init lk_L_12 rfl (Nat.le_of_ble_eq_true rfl) rfl rfl dL_law_12 ?_
  intro v2 μ2 h2
  obtain ⟨rfl, S2, M2, L2, P2, rfl, hR2, hr2, hF2⟩ := h2
  have hc : CIN x S2 M2 P2 := hI1.keep (fun b z => (hF2 b z).1.trans (gS_n rfl (by omega) rfl)) (fun b k z => ((hF2 b z).2.2 k).trans (gR_n rfl (by omega) rfl)) (fun b k z => (congrFun (hF2 b z).2.1 k).trans (gR_n rfl (by omega) rfl))
  refine LL_r0 ?_
  refine LL_astore_n (lv' := [(2, .ref (x + 75)), (1, .ref x), (0, .ref b)]) dL_law_15 rfl (by decide) rfl ?_
  refine LL_iconst (v := 0) dL_law_16 rfl ?_
  refine LL_istore_n (lv' := [(3, .int (nI 0)), (2, .ref (x + 75)), (1, .ref x), (0, .ref b)]) dL_law_17 rfl (by decide) rfl ?_
  exact LL.fewer (by decide) (by decide) (lw_loop hL 512 0 (by omega) (by omega) _ _ _ _ _ _ ⟨hc.1, hc.abs, hR2, hr2, rng3_init, by omega⟩)
/-- from the entry, for every script of at most 3072 ints, the law comes to its end with true -/
theorem whole_start {p : Program} {e : Env} {s : State} {m : MethodId} {below : List Frame} {meth : Method} {c : Code} (l : Launch) (hflags : l.flags = flags0) {b L : Nat} {xs : Nat → Int32} (hL : L ≤ 3072) (C0 : lw_At p s m meth c b L xs) : W p l e room_1 s m #[Value.ref b] below meth c s.heap [] 0 0 (lw_Z below #[Value.ref b] s) (entryFrame m ([Value.ref b] : List Value).toArray 4) := by
  obtain ⟨hx, hb, hr, hml, hown, hts, hX, hbl, hlocks, hgv⟩ := C0
  obtain ⟨G, hK, hT, hB⟩ := lw_G hts hgv
  have hl := lv_entry ([.ref b]) (n := 4) (Nat.le_of_ble_eq_true rfl)
  rw [lg_entry_eq]
  exact lw_body (x := s.heap.size) (S := fun _ => (0, 0)) (M := fun _ _ => 0) (L := fun _ _ => 0) (P := fun _ _ => none) hL (s.heap.size, fun _ => (0, 0), fun _ _ => 0, fun _ _ => 0, fun _ _ => none) EQV.rf p l e s m below meth c s.heap [] 0 0 _
    ⟨hx, hb, hr, hml, fun w h => hts w (List.mem_filter.mp h).1, hown, hlocks, hK, hT, hX, hbl, hB⟩ rfl rfl va_S.rf
    ⟨rfl, by rw [hB]; exact Nat.le_refl _, fun a h => absurd rfl h, fun a ci r h => absurd (show 0 = ci + 1 from h) (by omega), fun a t h => absurd (show 0 = 20 + t from h) (by omega)⟩ hl
end LW4
