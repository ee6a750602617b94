section LW3
/-! ===== what the start gives: the classes, the arrays, the String constants ===== -/
theorem nw_in : ∀ w ∈ NW, w ∈ lw_tbl := by decide +kernel
theorem ow_in : ∀ C ∈ OW, Cond.arrayOver (.object C) ∈ lw_tbl := by decide +kernel
theorem cw_in : ∀ q ∈ CW, Cond.castable q.1 q.2 ∈ lw_tbl := by decide +kernel
theorem sq_in : ∀ q ∈ SQ, Cond.stringRef q.1 q.2.1 q.2.2 ∈ lw_tbl := by decide +kernel
theorem cls_ins : ∀ q ∈ vwCl, Cond.instantiable q.1 q.2.2 ∈ lw_tbl := by decide +kernel
theorem nw_tab : ∀ w ∈ NW, w.onTables = true := by decide +kernel
theorem cw_tab : ∀ q ∈ CW, (Cond.castable q.1 q.2).onTables = true := by decide +kernel
def lfl : List Cond := flatC (Jvm.Cond.and given_1 narrow_1)
def ixC : List Nat := [16, 17, 18, 26, 27, 28, 29, 37, 38, 39, 40, 41, 49, 50, 51, 52, 53, 61, 62, 63, 64, 65, 69, 77, 85, 93, 101, 112, 113, 114, 115, 116, 117, 119, 120, 121, 122, 123, 124, 125, 126, 133, 134, 135, 136, 137, 138, 146, 147, 148, 149, 150, 151]
def ixB : List Nat := [153, 210, 218, 228, 239, 252, 267, 281, 297, 314, 332, 348, 366]
def ltm (i : Nat) : Term := .string (SQ.getD i ("", 0, "")).1 (SQ.getD i ("", 0, "")).2.1
set_option maxRecDepth 100000 in
theorem nc_at : ∀ k, k < 53 → lfl[ixC.getD k 0]? = some (Cond.not (.castable (NC.getD k ("", "")).1 (NC.getD k ("", "")).2)) := by decide +kernel
theorem nc_in : ∀ q ∈ NC, Cond.not (.castable q.1 q.2) ∈ lfl := by
  intro q hq
  obtain ⟨k, hk⟩ := List.getElem?_of_mem hq
  have hl : k < 53 := (List.getElem?_eq_some_iff.mp hk).1
  have h := nc_at k hl
  have e : NC.getD k ("", "") = q := by rw [List.getD_eq_getElem?_getD, hk]; rfl
  rw [e] at h
  exact List.mem_of_getElem? h
set_option maxRecDepth 100000 in
theorem st_ex0 : ∀ i, i < 13 → lfl[ixB.getD i 0]? = some (Cond.exactly (ltm i) "java/lang/String") := by decide +kernel
set_option maxRecDepth 100000 in
theorem st_co0 : ∀ i, i < 13 → lfl[ixB.getD i 0 + 1]? = some (Cond.eq (.field (ltm i) "java/lang/String" "coder" "B") (.int 0)) := by decide +kernel
set_option maxRecDepth 100000 in
theorem st_ar0 : ∀ i, i < 13 → lfl[ixB.getD i 0 + 2]? = some (Cond.arrayOf (.field (ltm i) "java/lang/String" "value" "[B") .byte) := by decide +kernel
set_option maxRecDepth 100000 in
theorem st_le0 : ∀ i, i < 13 → lfl[ixB.getD i 0 + 3]? = some (Cond.eq (.length (.field (ltm i) "java/lang/String" "value" "[B")) (.int (Int32.ofNat (lenS.getD i 0)))) := by decide +kernel
set_option maxRecDepth 100000 in
theorem st_el0 : ∀ i, i < 13 → ∀ j, j < lenS.getD i 0 → lfl[ixB.getD i 0 + 4 + j]? = some (Cond.eq (.elem (.field (ltm i) "java/lang/String" "value" "[B") (.int (Int32.ofNat j))) (.int ((bytS.getD i []).getD j 0))) := by decide +kernel
set_option maxRecDepth 100000 in
theorem st_ne0 : ∀ i, i < 13 → ∀ j, j < i → lfl[ixB.getD i 0 + 4 + lenS.getD i 0 + j]? = some (Cond.not (Cond.eq (ltm j) (ltm i))) := by decide +kernel
theorem st_ex : ∀ i, i < 13 → Cond.exactly (ltm i) "java/lang/String" ∈ lfl := fun i hi => List.mem_of_getElem? (st_ex0 i hi)
theorem st_co : ∀ i, i < 13 → Cond.eq (.field (ltm i) "java/lang/String" "coder" "B") (.int 0) ∈ lfl := fun i hi => List.mem_of_getElem? (st_co0 i hi)
theorem st_ar : ∀ i, i < 13 → Cond.arrayOf (.field (ltm i) "java/lang/String" "value" "[B") .byte ∈ lfl := fun i hi => List.mem_of_getElem? (st_ar0 i hi)
theorem st_le : ∀ i, i < 13 → Cond.eq (.length (.field (ltm i) "java/lang/String" "value" "[B")) (.int (Int32.ofNat (lenS.getD i 0))) ∈ lfl := fun i hi => List.mem_of_getElem? (st_le0 i hi)
theorem st_el : ∀ i, i < 13 → ∀ j, j < lenS.getD i 0 → Cond.eq (.elem (.field (ltm i) "java/lang/String" "value" "[B") (.int (Int32.ofNat j))) (.int ((bytS.getD i []).getD j 0)) ∈ lfl := fun i hi j hj => List.mem_of_getElem? (st_el0 i hi j hj)
theorem st_ne : ∀ i, i < 13 → ∀ j, j < 13 → i ≠ j → Cond.not (Cond.eq (ltm i) (ltm j)) ∈ lfl ∨ Cond.not (Cond.eq (ltm j) (ltm i)) ∈ lfl := by
  intro i hi j hj hn
  rcases Nat.lt_or_ge i j with h | h
  · exact Or.inl (List.mem_of_getElem? (st_ne0 j hj i h))
  · exact Or.inr (List.mem_of_getElem? (st_ne0 i hi j (by omega)))
set_option maxRecDepth 100000 in
theorem cz_in : Cond.eq (.static "java/lang/String" "COMPACT_STRINGS" "Z") (.int 1) ∈ lfl := List.mem_of_getElem? (i := 4) (by decide +kernel)
set_option maxRecDepth 100000 in
theorem fz_in : Cond.isRef (.static "jdk/internal/util/Preconditions" "SIOOBE_FORMATTER" "Ljava/util/function/BiFunction;") ∈ lfl := List.mem_of_getElem? (i := 5) (by decide +kernel)
theorem arr_o {args : Array Value} {s : State} {C : String} (h : (Cond.arrayOver (.object C)).before args s = true) : ∃ cA : ClassId, ArrOfT s cA (.object C) ∧ va_RA s cA (.object C) := by
  obtain ⟨comp, cA, kA, f3, -, f2, f4, f1⟩ := Cond.arrayOver_spec (args := args) (first := s) (o := none) (s := s) (idx := []) h
  exact ⟨cA, fun N z => ⟨(fun k h => by cases h), kA, f2, comp, f4⟩, kA, comp, f2, f4, f3, f1⟩
theorem arr_i {args : Array Value} {s : State} (h : (Cond.arrayClass .int).before args s = true) : ∃ cA : ClassId, ArrOfT s cA .int ∧ va_RA s cA .int := by
  obtain ⟨cA, kA, comp, h1, h2, h3⟩ := Cond.arrayClass_spec (args := args) (first := s) (o := none) (s := s) (idx := []) h
  exact ⟨cA, fun n z => ⟨(fun k h => by cases h), kA, h2, comp, h3⟩, h1⟩
theorem arr_z {args : Array Value} {s : State} (h : (Cond.arrayClass .boolean).before args s = true) : ∃ cA : ClassId, ArrOfT s cA .boolean ∧ va_RA s cA .boolean := by
  obtain ⟨cA, kA, comp, h1, h2, h3⟩ := Cond.arrayClass_spec (args := args) (first := s) (o := none) (s := s) (idx := []) h
  exact ⟨cA, fun n z => ⟨(fun k h => by cases h), kA, h2, comp, h3⟩, h1⟩
theorem lw_G {s : State} {args : Array Value} (hts : ∀ w ∈ lw_tbl, w.before args s = true) (hgv : (Jvm.Cond.and given_1 narrow_1).before args s = true) : ∃ G : Gx, KS G s ∧ STR G s s.heap ∧ gB G = s.heap.size := by
  have hfl : ∀ c ∈ lfl, c.before args s = true := flat_of_before _ hgv
  have hT : ∀ w ∈ TBL, w.before args s = true := fun w h => hts w (List.mem_filter.mp h).1
  have h0 : ∀ (ci : Nat) (r : vw_C), vwCl[ci]? = some r → ∃ q : ClassId × (Nat → Nat), u_Kn s r.1 r.2.1 r.2.2 q.1 q.2 := fun ci r h => by
    obtain ⟨cC, iS, hk⟩ := u_known (C := r.1) (T := r.2.1) (N := r.2.2) (n := r.2.2) hT (cls_in ci r h) (hts _ (cls_ins r (List.mem_of_getElem? h)))
    exact ⟨(cC, iS), hk⟩
  obtain ⟨qd, -⟩ := h0 0 _ rfl
  have h1 : ∀ ci : Nat, ∃ q : ClassId × (Nat → Nat), ∀ r, vwCl[ci]? = some r → u_Kn s r.1 r.2.1 r.2.2 q.1 q.2 := fun ci => by
    cases h : vwCl[ci]? with
    | none => exact ⟨qd, fun r hr => by cases hr⟩
    | some r =>
      obtain ⟨q, hq⟩ := h0 ci r h
      exact ⟨q, fun r' hr => by cases hr; exact hq⟩
  obtain ⟨dq, hdq⟩ := Classical.axiomOfChoice h1
  have h2 : ∀ t : Nat, ∃ cA : ClassId, t < 6 → ArrOfT s cA (aty t) ∧ va_RA s cA (aty t) := fun t => by
    match t with
    | 0 => obtain ⟨c, h⟩ := arr_i (hts (.arrayClass .int) (by decide +kernel)); exact ⟨c, fun _ => h⟩
    | 1 => obtain ⟨c, h⟩ := arr_z (hts (.arrayClass .boolean) (by decide +kernel)); exact ⟨c, fun _ => h⟩
    | 2 => obtain ⟨c, h⟩ := arr_o (hts (.arrayOver (.object RX10)) (by decide +kernel)); exact ⟨c, fun _ => h⟩
    | 3 => obtain ⟨c, h⟩ := arr_o (hts (.arrayOver (.object RX8)) (by decide +kernel)); exact ⟨c, fun _ => h⟩
    | 4 => obtain ⟨c, h⟩ := arr_o (hts (.arrayOver (.object RX1)) (by decide +kernel)); exact ⟨c, fun _ => h⟩
    | 5 => obtain ⟨c, h⟩ := arr_o (hts (.arrayOver (.object RX7)) (by decide +kernel)); exact ⟨c, fun _ => h⟩
    | t + 6 => exact ⟨qd.1, fun h => absurd h (by omega)⟩
  obtain ⟨dA, hdA⟩ := Classical.axiomOfChoice h2
  have hA : ∀ a : Nat, a < s.heap.size → ¬ (fun q : Nat => s.heap.size ≤ q) a := fun a h => Nat.not_le.mpr h
  obtain ⟨adK, adV, hS, hE⟩ := vk_Sof (args := args) (s := s) (N := 13) (tm := ltm) (len := lenS) (byt := bytS) (A := fun q : Nat => s.heap.size ≤ q) (by decide) (fun i hi => hfl _ (st_ex i hi)) (fun i hi => hfl _ (st_co i hi)) (fun i hi => hfl _ (st_ar i hi)) (fun i hi => hfl _ (st_le i hi)) (fun i hi j hj => hfl _ (st_el i hi j hj)) (fun i j hi hj hn => (st_ne i hi j hj hn).imp (fun h => hfl _ h) (fun h => hfl _ h)) hA
  refine ⟨(fun ci => (dq ci).1, fun ci => (dq ci).2, dA, s.heap.size, adK, adV), ⟨⟨fun c q hq => hdq c q hq, fun k q hq => ?_⟩, fun w hw => va_tabs (nw_tab w hw) rfl (hts _ (nw_in w hw)), fun q hq => va_tabs (cw_tab q hq) rfl (hts _ (cw_in q hq)), fun C hC => va_AO.of (hts _ (ow_in C hC)), fun q hq => va_Nc.of (hfl _ (nc_in q hq)), fun i hi q hq => ?_⟩, ⟨hS, ?_, ?_⟩, rfl⟩
  · have hk6 : k < 6 := (List.getElem?_eq_some_iff.mp hq).1
    match k, hk6 with
    | 0, _ => cases hq; exact hdA 0 (by decide)
    | 1, _ => cases hq; exact hdA 1 (by decide)
    | 2, _ => cases hq; exact hdA 2 (by decide)
    | 3, _ => cases hq; exact hdA 3 (by decide)
    | 4, _ => cases hq; exact hdA 4 (by decide)
    | 5, _ => cases hq; exact hdA 5 (by decide)
  · have e : SQ.getD i ("", 0, "") = q := by rw [List.getD_eq_getElem?_getD, hq]; rfl
    have h3 := hE i hi
    unfold ltm at h3
    rw [e] at h3
    exact vk_R.of (hts _ (sq_in q (List.mem_of_getElem? hq))) h3
  · exact va_Zof (hts (.laysStatic "java/lang/String" "COMPACT_STRINGS" "Z") (by decide +kernel)) (hts (.initialized "java/lang/String") (by decide +kernel)) (va_eqi (hfl _ cz_in)) hA
  · exact va_Zqof (hts (.laysStatic "jdk/internal/util/Preconditions" "SIOOBE_FORMATTER" "Ljava/util/function/BiFunction;") (by decide +kernel)) (hts (.initialized "jdk/internal/util/Preconditions") (by decide +kernel)) (hfl _ fz_in) hA
end LW3
