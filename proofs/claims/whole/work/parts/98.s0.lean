/-! ===== the String constants: length and charAt ===== -/
theorem lkJ_335 : LV RJ0 335 yJ0_coder_7d493 := ⟨tb_170, tb_171, tb_172⟩
theorem lkJ_492 : LV RJ0 492 yJ0_isLatin1_aae02 := ⟨tb_180, tb_181, tb_182⟩
theorem lkJ_495 : LkS RJ0 495 yJ1_charAt_3b067 := ⟨tb_184, tb_185⟩
theorem lkJ_9 : LkS RJ1 9 yJ0_checkIndex_df160 := ⟨tb_187, tb_188⟩
theorem lkJ_1059 : LkS RJ0 1059 yJ3_checkIndex_8e157 := ⟨tb_192, tb_193⟩
theorem str_all : ∀ i, i < 13 → (lenS.getD i 0 = (bytS.getD i []).length ∧ (bytS.getD i []).length < 1000 ∧ ∀ b ∈ bytS.getD i [], ((b &&& 255).toUInt32 % 65536).toInt32 = b ∧ narrow .char (.int b) = .int b) := by decide +kernel
section JST
variable {G : Gx} {y : MethodName} {cc : ByteArray} {nL : Nat} {ret : Option FieldType} {d kc ks : Nat} {Φ : Option Value → Mem → Prop} {pc : Nat} {lv : List (Nat × Value)} {st : List Value} {μ : Mem}
theorem J_callVs {i idx d' mc' ms' kc' ks' nL' : Nat} {y' : MethodName} {cc' : ByteArray} {ret' : Option FieldType} {As rest : List Value} {Φ' : Option Value → Mem → Prop} (hi : i < 13) (hr : y'.cls = "java/lang/String") (hK : K G y' cc' nL' ret' d' mc' ms' (.ref (gK G i) :: As) μ Φ') (hd : d' < d) (hM : MI y' cc' nL' ret' As.length) (hL : LV y.cls idx y') (hst : st = As.reverse ++ .ref (gK G i) :: rest) (hrest : (rest.map fun v => v.category).sum ≤ 8) (hk1 : kc' + mc' = kc) (hk2 : ks' + ms' = ks) (hdg : decode cc pc = .ok (.invokevirtual idx, 3))
    (kk : ∀ v μ', Φ' v μ' → J G y cc nL ret d kc' ks' Φ (pc + 3) lv (v.toList ++ rest) μ') : J G y cc nL ret d kc ks Φ pc lv st μ := by
  refine J_run (a := (Value.ref (gK G i) :: As).toArray) hk1 hk2 ?_ kk
  intro p l e s m args below meth c H locs cells slots mc ms ls C h1 h2 hS hW hl
  have hts := C.2.2.2.2.1
  have hG := TBL_in hM.1
  have hT : GoodIn TBL (wsV y.cls idx y'.cls y' (.code y' cc' nL' ret' :: TBL)) := by
    intro w hw
    unfold wsV at hw
    rcases List.mem_append.mp hw with q | q
    · simp only [List.mem_cons, List.not_mem_nil, or_false] at q
      have hin : w ∈ TBL := by rcases q with rfl | rfl | rfl | rfl <;> first | exact hL.1 | exact hL.2.1 | exact hL.2.2 | exact hM.2.1
      exact ⟨hin, good_of_word (List.all_eq_true.mp TBL_good w hin)⟩
    · exact hG w q
  exact va_runV ⟨C.1, C.2.1, C.2.2.2.1, C.2.2.2.2.2.1, hts⟩ (hK l) (cwV As.length hts hT rfl rfl rfl ⟨rfl, hM.2.2.1⟩ ⟨by show d' + 2 + 1 ≤ d + 2; omega, by have := hM.2.2.2; show 8 + (nL' + 11) + 40 * (d' + 2) ≤ 40 * (d + 2); omega⟩) ⟨K_blind, hr.symm ▸ vk_recv C.2.2.2.2.2.2.2.2.2.1 hi hS, K_pre C hS hW⟩ rfl rfl hl.1 hst (lv_room hrest) hdg ⟨by show cells + mc' ≤ mc; omega, by show slots + ms' ≤ ms; omega⟩
theorem J_strv {i idx : Nat} (hi : i < 13) (hl : Cond.fieldLink y.cls idx "java/lang/String" "value" "[B" ∈ TBL) (hdg : decode cc pc = .ok (.getfield idx, 3)) (kk : J G y cc nL ret d kc ks Φ (pc + 3) lv (.ref (gV G i) :: st) μ) : J G y cc nL ret d kc ks Φ pc lv (.ref (gK G i) :: st) μ := by
  intro p l e s m args below meth c H locs cells slots mc ms ls C h1 h2 hS hW hlv
  exact vk_getf C.1 C.2.1 (C.2.2.2.2.2.2.2.2.2.1.1 i hi).2.2.1 hS C.2.2.2.2.2.1 (C.2.2.2.2.1 _ hl) (fun x h => h) hdg (kk p l e s m args below meth c H locs cells slots mc ms ls C h1 h2 hS hW hlv)
theorem J_strc {i idx : Nat} (hi : i < 13) (hl : Cond.fieldLink y.cls idx "java/lang/String" "coder" "B" ∈ TBL) (hdg : decode cc pc = .ok (.getfield idx, 3)) (kk : J G y cc nL ret d kc ks Φ (pc + 3) lv (.int 0 :: st) μ) : J G y cc nL ret d kc ks Φ pc lv (.ref (gK G i) :: st) μ := by
  intro p l e s m args below meth c H locs cells slots mc ms ls C h1 h2 hS hW hlv
  exact vk_getf C.1 C.2.1 (C.2.2.2.2.2.2.2.2.2.1.1 i hi).2.1 hS C.2.2.2.2.2.1 (C.2.2.2.2.1 _ hl) (fun x h => h) hdg (kk p l e s m args below meth c H locs cells slots mc ms ls C h1 h2 hS hW hlv)
theorem J_strl {i : Nat} (hi : i < 13) (hdg : decode cc pc = .ok (.arraylength, 1)) (kk : J G y cc nL ret d kc ks Φ (pc + 1) lv (.int (nI (lenS.getD i 0)) :: st) μ) : J G y cc nL ret d kc ks Φ pc lv (.ref (gV G i) :: st) μ := by
  intro p l e s m args below meth c H locs cells slots mc ms ls C h1 h2 hS hW hlv
  exact va_tlen C.1 C.2.1 (C.2.2.2.2.2.2.2.2.2.1.1 i hi).2.2.2 hS rfl hdg (kk p l e s m args below meth c H locs cells slots mc ms ls C h1 h2 hS hW hlv)
theorem J_strb {i k : Nat} (hi : i < 13) (hk : k < lenS.getD i 0) (hdg : decode cc pc = .ok (.baload, 1)) (kk : J G y cc nL ret d kc ks Φ (pc + 1) lv (.int ((bytS.getD i []).getD k 0) :: st) μ) : J G y cc nL ret d kc ks Φ pc lv (.int (nI k) :: .ref (gV G i) :: st) μ := by
  intro p l e s m args below meth c H locs cells slots mc ms ls C h1 h2 hS hW hlv
  obtain ⟨a1, a2, -⟩ := str_all i hi
  exact va_tb C.1 C.2.1 (C.2.2.2.2.2.2.2.2.2.1.1 i hi).2.2.2 hS (vp_in_nI hk (by omega)) (by show Value.int _ = _; rw [nI_clamp (by omega)]) hdg (kk p l e s m args below meth c H locs cells slots mc ms ls C h1 h2 hS hW hlv)
theorem J_cmps {idx : Nat} (hl : Cond.fieldLink y.cls idx "java/lang/String" "COMPACT_STRINGS" "Z" ∈ TBL) (hdg : decode cc pc = .ok (.getstatic idx, 3)) (kk : J G y cc nL ret d kc ks Φ (pc + 3) lv (.int 1 :: st) μ) : J G y cc nL ret d kc ks Φ pc lv st μ := by
  intro p l e s m args below meth c H locs cells slots mc ms ls C h1 h2 hS hW hlv
  exact va_gets C.1 C.2.1 C.2.2.2.2.2.2.2.2.2.2.1 hS C.2.2.2.2.2.1 (C.2.2.2.2.1 _ hl) (fun x h => h) hdg (kk p l e s m args below meth c H locs cells slots mc ms ls C h1 h2 hS hW hlv)
theorem J_fmt {idx : Nat} (hl : Cond.fieldLink y.cls idx "jdk/internal/util/Preconditions" "SIOOBE_FORMATTER" "Ljava/util/function/BiFunction;" ∈ TBL) (hdg : decode cc pc = .ok (.getstatic idx, 3)) (kk : ∀ v, (v = .null ∨ ∃ t, v = .ref t) → J G y cc nL ret d kc ks Φ (pc + 3) lv (v :: st) μ) : J G y cc nL ret d kc ks Φ pc lv st μ := by
  intro p l e s m args below meth c H locs cells slots mc ms ls C h1 h2 hS hW hlv
  rcases C.2.2.2.2.2.2.2.2.2.2.2 with h | ⟨t, h⟩
  · exact va_gets C.1 C.2.1 h hS C.2.2.2.2.2.1 (C.2.2.2.2.1 _ hl) (fun x h => h) hdg (kk .null (Or.inl rfl) p l e s m args below meth c H locs cells slots mc ms ls C h1 h2 hS hW hlv)
  · exact va_gets C.1 C.2.1 h hS C.2.2.2.2.2.1 (C.2.2.2.2.1 _ hl) (fun x h => h) hdg (kk (.ref t) (Or.inr ⟨t, rfl⟩) p l e s m args below meth c H locs cells slots mc ms ls C h1 h2 hS hW hlv)
theorem J_ishr {x1 x2 : Int32} (hdg : decode cc pc = .ok (.ishr, 1)) (k : J G y cc nL ret d kc ks Φ (pc + 1) lv (.int (x1 >>> (x2 &&& 31)) :: st) μ) : J G y cc nL ret d kc ks Φ pc lv (.int x2 :: .int x1 :: st) μ :=
  fun p l e s m args below meth c H locs cells slots mc ms ls C h1 h2 hS hW hl => lv_ishr C.1 C.2.1 hdg (k p l e s m args below meth c H locs cells slots mc ms ls C h1 h2 hS hW hl)
variable {sc : Nat → Nat → Prop}
theorem JJ_callVs {i idx d' mc' ms' kc' ks' nL' : Nat} {y' : MethodName} {cc' : ByteArray} {ret' : Option FieldType} {As rest : List Value} {Φ' : Option Value → Mem → Prop} (hi : i < 13) (hr : y'.cls = "java/lang/String") (hK : KK G sc y' cc' nL' ret' d' mc' ms' (.ref (gK G i) :: As) μ Φ') (hd : d' < d) (hM : MI y' cc' nL' ret' As.length) (hL : LV y.cls idx y') (hst : st = As.reverse ++ .ref (gK G i) :: rest) (hrest : (rest.map fun v => v.category).sum ≤ 8) (hk1 : kc' + mc' = kc) (hk2 : ks' + ms' = ks) (hdg : decode cc pc = .ok (.invokevirtual idx, 3)) (kk : ∀ v μ', Φ' v μ' → JJ G sc y cc nL ret d kc' ks' Φ (pc + 3) lv (v.toList ++ rest) μ') : JJ G sc y cc nL ret d kc ks Φ pc lv st μ :=
  fun μ' h => J_callVs hi hr (hK μ' h) hd hM hL hst hrest hk1 hk2 hdg (fun v ν ⟨ν0, h1, h2⟩ => kk v ν0 h2 ν h1)
theorem JJ_strv {i idx : Nat} (hi : i < 13) (hl : Cond.fieldLink y.cls idx "java/lang/String" "value" "[B" ∈ TBL) (hdg : decode cc pc = .ok (.getfield idx, 3)) (kk : JJ G sc y cc nL ret d kc ks Φ (pc + 3) lv (.ref (gV G i) :: st) μ) : JJ G sc y cc nL ret d kc ks Φ pc lv (.ref (gK G i) :: st) μ := fun μ' h => J_strv hi hl hdg (kk μ' h)
theorem JJ_strc {i idx : Nat} (hi : i < 13) (hl : Cond.fieldLink y.cls idx "java/lang/String" "coder" "B" ∈ TBL) (hdg : decode cc pc = .ok (.getfield idx, 3)) (kk : JJ G sc y cc nL ret d kc ks Φ (pc + 3) lv (.int 0 :: st) μ) : JJ G sc y cc nL ret d kc ks Φ pc lv (.ref (gK G i) :: st) μ := fun μ' h => J_strc hi hl hdg (kk μ' h)
theorem JJ_strl {i : Nat} (hi : i < 13) (hdg : decode cc pc = .ok (.arraylength, 1)) (kk : JJ G sc y cc nL ret d kc ks Φ (pc + 1) lv (.int (nI (lenS.getD i 0)) :: st) μ) : JJ G sc y cc nL ret d kc ks Φ pc lv (.ref (gV G i) :: st) μ := fun μ' h => J_strl hi hdg (kk μ' h)
theorem JJ_strb {i k : Nat} (hi : i < 13) (hk : k < lenS.getD i 0) (hdg : decode cc pc = .ok (.baload, 1)) (kk : JJ G sc y cc nL ret d kc ks Φ (pc + 1) lv (.int ((bytS.getD i []).getD k 0) :: st) μ) : JJ G sc y cc nL ret d kc ks Φ pc lv (.int (nI k) :: .ref (gV G i) :: st) μ := fun μ' h => J_strb hi hk hdg (kk μ' h)
theorem JJ_cmps {idx : Nat} (hl : Cond.fieldLink y.cls idx "java/lang/String" "COMPACT_STRINGS" "Z" ∈ TBL) (hdg : decode cc pc = .ok (.getstatic idx, 3)) (kk : JJ G sc y cc nL ret d kc ks Φ (pc + 3) lv (.int 1 :: st) μ) : JJ G sc y cc nL ret d kc ks Φ pc lv st μ := fun μ' h => J_cmps hl hdg (kk μ' h)
theorem JJ_fmt {idx : Nat} (hl : Cond.fieldLink y.cls idx "jdk/internal/util/Preconditions" "SIOOBE_FORMATTER" "Ljava/util/function/BiFunction;" ∈ TBL) (hdg : decode cc pc = .ok (.getstatic idx, 3)) (kk : ∀ v, (v = .null ∨ ∃ t, v = .ref t) → JJ G sc y cc nL ret d kc ks Φ (pc + 3) lv (v :: st) μ) : JJ G sc y cc nL ret d kc ks Φ pc lv st μ := fun μ' h => J_fmt hl hdg (fun v hv => kk v hv μ' h)
theorem JJ_ishr {x1 x2 : Int32} (hdg : decode cc pc = .ok (.ishr, 1)) (k : JJ G sc y cc nL ret d kc ks Φ (pc + 1) lv (.int (x1 >>> (x2 &&& 31)) :: st) μ) : JJ G sc y cc nL ret d kc ks Φ pc lv (.int x2 :: .int x1 :: st) μ := fun μ' h => J_ishr hdg (k μ' h)
end JST
theorem mem_getD0 {l : List Int32} {k : Nat} (h : k < l.length) : l.getD k 0 ∈ l := by
  rw [List.getD_eq_getElem?_getD, List.getElem?_eq_getElem h]
  exact List.getElem_mem _
section KST
variable {G : Gx} {sc : Nat → Nat → Prop} {μ : Mem}
/-- coder() -/
theorem ks_coder {i : Nat} (hi : i < 13) : KK G sc yJ0_coder_7d493 cJ0_coder_7d493 1 (some .byte) 0 0 0 [.ref (gK G i)] μ (ansI 0 μ) := by
  refine KK_of2 [(0, .ref (gK G i))] (by decide +kernel) (Nat.le_of_ble_eq_true rfl) rfl ?_
  refine JJ_cmps tb_174 dJ0_coder_7d493_0 ?_
  refine JJ_if_eq (tgt := 13) dJ0_coder_7d493_3 (by decide) (fun c => absurd c (by decide)) (fun _ => ?_)
  refine JJ_aload_n dJ0_coder_7d493_6 rfl rfl ?_
  refine JJ_strc hi tb_1412 dJ0_coder_7d493_7 ?_
  refine JJ_goto (tgt := 14) dJ0_coder_7d493_10 (by decide) ?_
  refine JJ_cret dJ0_coder_7d493_14 rfl rfl ?_
  exact ⟨rfl, rfl⟩
/-- isLatin1() -/
theorem ks_latin {i : Nat} (hi : i < 13) : KK G sc yJ0_isLatin1_aae02 cJ0_isLatin1_aae02 1 (some .boolean) 0 0 0 [.ref (gK G i)] μ (ansI 1 μ) := by
  refine KK_of2 [(0, .ref (gK G i))] (by decide +kernel) (Nat.le_of_ble_eq_true rfl) rfl ?_
  refine JJ_cmps tb_174 dJ0_isLatin1_aae02_0 ?_
  refine JJ_if_eq (tgt := 17) dJ0_isLatin1_aae02_3 (by decide) (fun c => absurd c (by decide)) (fun _ => ?_)
  refine JJ_aload_n dJ0_isLatin1_aae02_6 rfl rfl ?_
  refine JJ_strc hi tb_1412 dJ0_isLatin1_aae02_7 ?_
  refine JJ_if_ne (tgt := 17) dJ0_isLatin1_aae02_10 (by decide) (fun c => absurd rfl c) (fun _ => ?_)
  refine JJ_iconst (v := 1) dJ0_isLatin1_aae02_13 rfl ?_
  refine JJ_goto (tgt := 18) dJ0_isLatin1_aae02_14 (by decide) ?_
  refine JJ_zret dJ0_isLatin1_aae02_18 rfl (Or.inr rfl) ?_
  exact ⟨rfl, rfl⟩
/-- length() -/
theorem ks_length {i : Nat} (hi : i < 13) : KK G sc yJ0_length_8abf5 cJ0_length_8abf5 1 (some .int) 1 0 0 [.ref (gK G i)] μ (ansI (nI (lenS.getD i 0)) μ) := by
  refine KK_of2 [(0, .ref (gK G i))] (by decide +kernel) (Nat.le_of_ble_eq_true rfl) rfl ?_
  refine JJ_aload_n dJ0_length_8abf5_0 rfl rfl ?_
  refine JJ_strv hi tb_1411 dJ0_length_8abf5_1 ?_
  refine JJ_strl hi dJ0_length_8abf5_4 ?_
  refine JJ_aload_n dJ0_length_8abf5_5 rfl rfl ?_
  refine JJ_callVs (rest := [.int (nI (lenS.getD i 0))]) hi rfl (ks_coder hi) (by decide) mi_J0_coder_7d493 lkJ_335 rfl (Nat.le_of_ble_eq_true rfl) rfl rfl dJ0_length_8abf5_6 ?_
  intro v ν h
  obtain ⟨rfl, rfl⟩ := h
  refine JJ_r1 ?_
  refine JJ_ishr dJ0_length_8abf5_9 ?_
  refine JJ_eqi (x2 := nI (lenS.getD i 0)) (Int32.shiftRight_zero) ?_
  refine JJ_iret dJ0_length_8abf5_10 rfl ?_
  exact ⟨rfl, rfl⟩
/-- Preconditions.checkIndex, inside -/
theorem ks_pre {k m : Nat} {w : Value} (hw : w = .null ∨ ∃ t, w = .ref t) (hk : k < m) (hm : m < 1000) : KK G sc yJ3_checkIndex_8e157 cJ3_checkIndex_8e157 3 (some .int) 0 0 0 [.int (nI k), .int (nI m), w] μ (ansI (nI k) μ) := by
  have go : JJ G sc yJ3_checkIndex_8e157 cJ3_checkIndex_8e157 3 (some .int) 0 0 0 (ansI (nI k) μ) 0 [(0, .int (nI k)), (1, .int (nI m)), (2, w)] [] μ := by
    refine JJ_iload_n dJ3_checkIndex_8e157_0 rfl rfl ?_
    refine JJ_if_lt (tgt := 9) dJ3_checkIndex_8e157_1 (by decide) (fun c => absurd c (nI_nn (by omega))) (fun _ => ?_)
    refine JJ_iload_n dJ3_checkIndex_8e157_4 rfl rfl ?_
    refine JJ_iload_n dJ3_checkIndex_8e157_5 rfl rfl ?_
    refine JJ_icmp_lt (tgt := 16) dJ3_checkIndex_8e157_6 (by decide) (fun _ => ?_) (fun c => absurd (nI_lt1 hk (by omega)) c)
    refine JJ_iload_n dJ3_checkIndex_8e157_16 rfl rfl ?_
    refine JJ_iret dJ3_checkIndex_8e157_17 rfl ?_
    exact ⟨rfl, rfl⟩
  rcases hw with rfl | ⟨t, rfl⟩
  · exact KK_of2 [(0, .int (nI k)), (1, .int (nI m)), (2, .null)] (by decide +kernel) (Nat.le_of_ble_eq_true rfl) rfl go
  · exact KK_of2 [(0, .int (nI k)), (1, .int (nI m)), (2, .ref t)] (by decide +kernel) (Nat.le_of_ble_eq_true rfl) rfl go
/-- String.checkIndex, inside -/
theorem ks_chk {k m : Nat} (hk : k < m) (hm : m < 1000) : KK G sc yJ0_checkIndex_df160 cJ0_checkIndex_df160 2 none 1 0 0 [.int (nI k), .int (nI m)] μ (ansV μ) := by
  refine KK_of2 [(0, .int (nI k)), (1, .int (nI m))] (by decide +kernel) (Nat.le_of_ble_eq_true rfl) rfl ?_
  refine JJ_iload_n dJ0_checkIndex_df160_0 rfl rfl ?_
  refine JJ_iload_n dJ0_checkIndex_df160_1 rfl rfl ?_
  refine JJ_fmt tb_190 dJ0_checkIndex_df160_2 (fun w hw => ?_)
  refine JJ_callS (rest := []) (ks_pre hw hk hm) (by decide) mi_J3_checkIndex_8e157 lkJ_1059 rfl (Nat.le_of_ble_eq_true rfl) rfl rfl dJ0_checkIndex_df160_5 ?_
  intro v ν h
  obtain ⟨rfl, rfl⟩ := h
  refine JJ_r1 ?_
  refine JJ_pop dJ0_checkIndex_df160_8 rfl ?_
  refine JJ_vret dJ0_checkIndex_df160_9 rfl ?_
  exact ⟨rfl, rfl⟩
/-- StringLatin1.charAt -/
theorem ks_lchar {i k : Nat} (hi : i < 13) (hk : k < lenS.getD i 0) : KK G sc yJ1_charAt_3b067 cJ1_charAt_3b067 2 (some .char) 2 0 0 [.ref (gV G i), .int (nI k)] μ (ansI ((bytS.getD i []).getD k 0) μ) := by
  obtain ⟨a1, a2, a3⟩ := str_all i hi
  have hmem : (bytS.getD i []).getD k 0 ∈ bytS.getD i [] := mem_getD0 (by omega)
  obtain ⟨b1, b2⟩ := a3 _ hmem
  refine KK_of2 [(0, .ref (gV G i)), (1, .int (nI k))] (by decide +kernel) (Nat.le_of_ble_eq_true rfl) rfl ?_
  refine JJ_iload_n dJ1_charAt_3b067_0 rfl rfl ?_
  refine JJ_aload_n dJ1_charAt_3b067_1 rfl rfl ?_
  refine JJ_strl hi dJ1_charAt_3b067_2 ?_
  refine JJ_callS (rest := []) (ks_chk hk (by omega)) (by decide) mi_J0_checkIndex_df160 lkJ_9 rfl (Nat.le_of_ble_eq_true rfl) rfl rfl dJ1_charAt_3b067_3 ?_
  intro v ν h
  obtain ⟨rfl, rfl⟩ := h
  refine JJ_r0 ?_
  refine JJ_aload_n dJ1_charAt_3b067_6 rfl rfl ?_
  refine JJ_iload_n dJ1_charAt_3b067_7 rfl rfl ?_
  refine JJ_strb hi hk dJ1_charAt_3b067_8 ?_
  refine JJ_sipush (v := 255) dJ1_charAt_3b067_9 rfl ?_
  refine JJ_iand dJ1_charAt_3b067_12 ?_
  refine JJ_i2c dJ1_charAt_3b067_13 ?_
  refine JJ_eqi b1 ?_
  refine JJ_cret dJ1_charAt_3b067_14 rfl b2 ?_
  exact ⟨rfl, rfl⟩
/-- charAt -/
theorem ks_char {i k : Nat} (hi : i < 13) (hk : k < lenS.getD i 0) : KK G sc yJ0_charAt_5068e cJ0_charAt_5068e 2 (some .char) 3 0 0 [.ref (gK G i), .int (nI k)] μ (ansI ((bytS.getD i []).getD k 0) μ) := by
  obtain ⟨a1, a2, a3⟩ := str_all i hi
  have hmem : (bytS.getD i []).getD k 0 ∈ bytS.getD i [] := mem_getD0 (by omega)
  obtain ⟨b1, b2⟩ := a3 _ hmem
  refine KK_of2 [(0, .ref (gK G i)), (1, .int (nI k))] (by decide +kernel) (Nat.le_of_ble_eq_true rfl) rfl ?_
  refine JJ_aload_n dJ0_charAt_5068e_0 rfl rfl ?_
  refine JJ_callVs (rest := []) hi rfl (ks_latin hi) (by decide) mi_J0_isLatin1_aae02 lkJ_492 rfl (Nat.le_of_ble_eq_true rfl) rfl rfl dJ0_charAt_5068e_1 ?_
  intro v ν h
  obtain ⟨rfl, rfl⟩ := h
  refine JJ_r1 ?_
  refine JJ_if_eq (tgt := 16) dJ0_charAt_5068e_4 (by decide) (fun c => absurd c (by decide)) (fun _ => ?_)
  refine JJ_aload_n dJ0_charAt_5068e_7 rfl rfl ?_
  refine JJ_strv hi tb_1411 dJ0_charAt_5068e_8 ?_
  refine JJ_iload_n dJ0_charAt_5068e_11 rfl rfl ?_
  refine JJ_callS (rest := []) (ks_lchar hi hk) (by decide) mi_J1_charAt_3b067 lkJ_495 rfl (Nat.le_of_ble_eq_true rfl) rfl rfl dJ0_charAt_5068e_12 ?_
  intro v ν h
  obtain ⟨rfl, rfl⟩ := h
  refine JJ_r1 ?_
  refine JJ_cret dJ0_charAt_5068e_15 rfl b2 ?_
  exact ⟨rfl, rfl⟩
end KST
