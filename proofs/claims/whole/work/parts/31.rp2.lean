section RP2
variable {G : Gx} {sc : Nat → Nat → Prop} {n : Nat} {S : Nat → Nat × Nat} {M : Nat → Nat → Int32} {L : Nat → Nat → Int64} {P : Nat → Nat → Option Nat} {o : Nat}

set_option maxHeartbeats 4000000 in
set_option maxRecDepth 100000 in
theorem kp_next {r m i0 : Nat} (hg : RDG o r m M) (hi0 : i0 ≤ m) (hB : ∀ i, i < m → 0 ≤ (TB o r M i).toInt) (h24 : M o 24 = nI i0) (hR : RWF o S P) (hX : HX o sc) : KK G sc yX12_next cX12_next 3 none 2 0 0 [.ref o] (n, S, M, L, P) (fun v μ => v = none ∧ ∃ M' L', μ = (n, S, M', L', P) ∧ TKS o (TB o r M) m i0 M' L' ∧ (∀ b k, ¬ NF o b k → M' b k = M b k) ∧ ∀ b k, ¬ (b = o ∧ k = 27) → L' b k = L b k) := by
  refine KK_of2 [(0, .ref o)] (by decide +kernel) (Nat.le_of_ble_eq_true rfl) rfl ?_
  have hm160 := hg.2.1
  have tail : ∀ (i : Nat) (Mx : Nat → Nat → Int32), i ≤ m → skB (TB o r M) m i0 = i → Mx o 24 = nI i → (∀ b k, ¬ NF o b k → Mx b k = M b k) → JJ G sc yX12_next cX12_next 3 none 2 0 0 (fun v μ => v = none ∧ ∃ M' L', μ = (n, S, M', L', P) ∧ TKS o (TB o r M) m i0 M' L' ∧ (∀ b k, ¬ NF o b k → M' b k = M b k) ∧ ∀ b k, ¬ (b = o ∧ k = 27) → L' b k = L b k) 39 [(0, .ref o)] [] (n, S, Mx, L, P) := by
    intro i Mx hsm hsk h24 hx
    by_cases hend : i = m
    · skip
      refine JJ_aload_n dX12_next_39 rfl rfl ?_
      refine JJ_aload_n dX12_next_40 rfl rfl ?_
      refine JJ_geti (v := nI i) (cis := [12]) (k := 24) fa_X12_130 (by decide) hR.1 rfl (hX.1 24) h24 dX12_next_41 ?_
      refine JJ_puti (cis := [12]) (k := 26) fa_X12_137 (by decide) hR.1 rfl (fun r hr => by cases hr; exact ⟨rfl, by decide +kernel⟩) dX12_next_44 (fun M1 hM2 => ?_)
      refine JJ_aload_n dX12_next_47 rfl rfl ?_
      refine JJ_aload_n dX12_next_48 rfl rfl ?_
      refine JJ_geti (v := nI i) (cis := [12]) (k := 24) fa_X12_130 (by decide) hR.1 rfl (hX.1 24) (rd_n hM2 (by omega) h24) dX12_next_49 ?_
      refine JJ_callV (rest := []) hR.1 rfl rfl (kp_byteAt (i := i) (hg.keep (fun b k z => rd_n hM2 (by omega) (hx b k (by omega)))) (by omega) hR hX) (by decide) mi_X12_byteAt lk_X12_133 rfl (Nat.le_of_ble_eq_true rfl) rfl rfl dX12_next_52 ?_
      intro v3 μ4 h5
      obtain ⟨rfl, rfl⟩ := h5
      refine JJ_r1 ?_
      refine JJ_eqi (x2 := (-1)) (by rw [TB_keep (fun b k z => rd_n hM2 (by omega) (hx b k (by omega)))]; exact bt_out (by omega)) ?_
      refine JJ_istore_n (lv' := [(1, .int ((-1))), (0, .ref o)]) dX12_next_55 rfl (by decide) rfl ?_
      refine JJ_aload_n dX12_next_56 rfl rfl ?_
      refine JJ_iconst (v := 4) dX12_next_57 rfl ?_
      refine JJ_puti (cis := [12]) (k := 25) fa_X12_140 (by decide) hR.1 rfl (fun r hr => by cases hr; exact ⟨rfl, by decide +kernel⟩) dX12_next_58 (fun M6 hM7 => ?_)
      refine JJ_iload_n dX12_next_61 rfl rfl ?_
      refine JJ_if_ge (tgt := 81) dX12_next_62 (by decide) (fun c8 => absurd c8 (by decide)) (fun _ => ?_)
      refine JJ_aload_n dX12_next_65 rfl rfl ?_
      refine JJ_iconst (v := 0) dX12_next_66 rfl ?_
      refine JJ_puti (cis := [12]) (k := 25) fa_X12_140 (by decide) hR.1 rfl (fun r hr => by cases hr; exact ⟨rfl, by decide +kernel⟩) dX12_next_67 (fun M9 hM10 => ?_)
      refine JJ_aload_n dX12_next_70 rfl rfl ?_
      refine JJ_aload_n dX12_next_71 rfl rfl ?_
      refine JJ_geti (v := nI m) (cis := [12]) (k := 23) fa_X12_124 (by decide) hR.1 rfl (hX.1 23) (rd_n hM10 (by omega) (rd_n hM7 (by omega) (rd_n hM2 (by omega) ((hx _ _ (by omega)).trans hg.2.2.2)))) dX12_next_72 ?_
      refine JJ_puti (cis := [12]) (k := 26) fa_X12_137 (by decide) hR.1 rfl (fun r hr => by cases hr; exact ⟨rfl, by decide +kernel⟩) dX12_next_75 (fun M11 hM12 => ?_)
      refine JJ_goto (tgt := 321) dX12_next_78 (by decide) ?_
      refine JJ_vret dX12_next_321 rfl ?_
      exact ⟨rfl, M11, L, rfl, by unfold TKS; rw [hsk]; exact ⟨hsm, (by rw [hend]; exact rd_s hM12), Or.inl ⟨hend, (rd_n hM12 (by omega) (rd_s hM10))⟩⟩, (fun b k z => rd_n hM12 (by omega) (rd_n hM10 (by omega) (rd_n hM7 (by omega) (rd_n hM2 (by omega) (hx b k (by omega)))))), (fun b k z => rfl)⟩
    · skip
      have hlt : i < m := by omega
      have hby := hB i hlt
      refine JJ_aload_n dX12_next_39 rfl rfl ?_
      refine JJ_aload_n dX12_next_40 rfl rfl ?_
      refine JJ_geti (v := nI i) (cis := [12]) (k := 24) fa_X12_130 (by decide) hR.1 rfl (hX.1 24) h24 dX12_next_41 ?_
      refine JJ_puti (cis := [12]) (k := 26) fa_X12_137 (by decide) hR.1 rfl (fun r hr => by cases hr; exact ⟨rfl, by decide +kernel⟩) dX12_next_44 (fun M13 hM14 => ?_)
      refine JJ_aload_n dX12_next_47 rfl rfl ?_
      refine JJ_aload_n dX12_next_48 rfl rfl ?_
      refine JJ_geti (v := nI i) (cis := [12]) (k := 24) fa_X12_130 (by decide) hR.1 rfl (hX.1 24) (rd_n hM14 (by omega) h24) dX12_next_49 ?_
      refine JJ_callV (rest := []) hR.1 rfl rfl (kp_byteAt (i := i) (hg.keep (fun b k z => rd_n hM14 (by omega) (hx b k (by omega)))) (by omega) hR hX) (by decide) mi_X12_byteAt lk_X12_133 rfl (Nat.le_of_ble_eq_true rfl) rfl rfl dX12_next_52 ?_
      intro v15 μ16 h17
      obtain ⟨rfl, rfl⟩ := h17
      refine JJ_r1 ?_
      refine JJ_eqi (x2 := (TB o r M) i) (by rw [TB_keep (fun b k z => rd_n hM14 (by omega) (hx b k (by omega)))]; exact bt_in (by omega)) ?_
      refine JJ_istore_n (lv' := [(1, .int ((TB o r M) i)), (0, .ref o)]) dX12_next_55 rfl (by decide) rfl ?_
      refine JJ_aload_n dX12_next_56 rfl rfl ?_
      refine JJ_iconst (v := 4) dX12_next_57 rfl ?_
      refine JJ_puti (cis := [12]) (k := 25) fa_X12_140 (by decide) hR.1 rfl (fun r hr => by cases hr; exact ⟨rfl, by decide +kernel⟩) dX12_next_58 (fun M18 hM19 => ?_)
      refine JJ_iload_n dX12_next_61 rfl rfl ?_
      refine JJ_if_ge (tgt := 81) dX12_next_62 (by decide) (fun _ => ?_) (fun c20 => absurd (i_le.mpr (show (0 : Int32).toInt ≤ _ from hby)) c20)
      refine JJ_iload_n dX12_next_81 rfl rfl ?_
      refine JJ_i2l dX12_next_82 ?_
      refine JJ_ldc2 (v := 97) dX12_next_83 tb_1142 ?_
      refine JJ_ldc2 (v := 122) dX12_next_86 tb_1143 ?_
      refine JJ_callS (rest := []) (kr_in32 (v := ((TB o r M) i)) (lo := 97) (hi := 122) (a := 97) (b := 122) rfl rfl) (by decide) mi_X12_in lk_X12_82 rfl (Nat.le_of_ble_eq_true rfl) rfl rfl dX12_next_89 ?_
      intro v21 μ22 h23
      obtain ⟨rfl, rfl⟩ := h23
      refine JJ_r1 ?_
      refine JJ_if_eq (tgt := 134) dX12_next_92 (by decide) (fun c24 => ?_) (fun c24 => ?_)
      · skip
        refine JJ_iload_n dX12_next_134 rfl rfl ?_
        refine JJ_i2l dX12_next_135 ?_
        refine JJ_ldc2 (v := 48) dX12_next_136 tb_1144 ?_
        refine JJ_ldc2 (v := 57) dX12_next_139 tb_1145 ?_
        refine JJ_callS (rest := []) (kr_in32 (v := ((TB o r M) i)) (lo := 48) (hi := 57) (a := 48) (b := 57) rfl rfl) (by decide) mi_X12_in lk_X12_82 rfl (Nat.le_of_ble_eq_true rfl) rfl rfl dX12_next_142 ?_
        intro v25 μ26 h27
        obtain ⟨rfl, rfl⟩ := h27
        refine JJ_r1 ?_
        refine JJ_if_eq (tgt := 252) dX12_next_145 (by decide) (fun c28 => ?_) (fun c28 => ?_)
        · skip
          refine JJ_iload_n dX12_next_252 rfl rfl ?_
          refine JJ_bipush (v := 40) dX12_next_253 rfl ?_
          refine JJ_icmp_eq (tgt := 300) dX12_next_255 (by decide) (fun c29 => ?_) (fun c29 => ?_)
          · skip
            refine JJ_aload_n dX12_next_300 rfl rfl ?_
            refine JJ_iconst (v := 3) dX12_next_301 rfl ?_
            refine JJ_puti (cis := [12]) (k := 25) fa_X12_140 (by decide) hR.1 rfl (fun r hr => by cases hr; exact ⟨rfl, by decide +kernel⟩) dX12_next_302 (fun M30 hM31 => ?_)
            refine JJ_aload_n dX12_next_305 rfl rfl ?_
            refine JJ_iload_n dX12_next_306 rfl rfl ?_
            refine JJ_i2l dX12_next_307 ?_
            refine JJ_putl (cis := [12]) (k := 27) fa_X12_151 (by decide) hR.1 rfl (fun r hr => by cases hr; exact ⟨rfl, by decide +kernel⟩) dX12_next_308 (fun L32 hL33 => ?_)
            refine JJ_aload_n dX12_next_311 rfl rfl ?_
            refine JJ_dup dX12_next_312 rfl ?_
            refine JJ_geti (v := nI i) (cis := [12]) (k := 24) fa_X12_130 (by decide) hR.1 rfl (hX.1 24) (rd_n hM31 (by omega) (rd_n hM19 (by omega) (rd_n hM14 (by omega) h24))) dX12_next_313 ?_
            refine JJ_iconst (v := 1) dX12_next_316 rfl ?_
            refine JJ_iadd dX12_next_317 ?_
            refine JJ_eqi (x2 := nI (i + 1)) (nI_add (i) (1)) ?_
            refine JJ_puti (cis := [12]) (k := 24) fa_X12_130 (by decide) hR.1 rfl (fun r hr => by cases hr; exact ⟨rfl, by decide +kernel⟩) dX12_next_318 (fun M34 hM35 => ?_)
            refine JJ_vret dX12_next_321 rfl ?_
            exact ⟨rfl, M34, L32, rfl, by unfold TKS; rw [hsk]; exact ⟨hsm, (rd_n hM35 (by omega) (rd_n hM31 (by omega) (rd_n hM19 (by omega) (rd_s hM14)))), Or.inr (Or.inr (Or.inr (Or.inr (Or.inl ⟨hlt, Or.inl c29, (rd_n hM35 (by omega) (rd_s hM31)), (rd_s hM35), (rd_s hL33)⟩))))⟩, (fun b k z => rd_n hM35 (by omega) (rd_n hM31 (by omega) (rd_n hM19 (by omega) (rd_n hM14 (by omega) (hx b k (by omega)))))), (fun b k z => rd_n hL33 z (rfl))⟩
          · skip
            refine JJ_iload_n dX12_next_258 rfl rfl ?_
            refine JJ_bipush (v := 41) dX12_next_259 rfl ?_
            refine JJ_icmp_eq (tgt := 300) dX12_next_261 (by decide) (fun c36 => ?_) (fun c36 => ?_)
            · skip
              refine JJ_aload_n dX12_next_300 rfl rfl ?_
              refine JJ_iconst (v := 3) dX12_next_301 rfl ?_
              refine JJ_puti (cis := [12]) (k := 25) fa_X12_140 (by decide) hR.1 rfl (fun r hr => by cases hr; exact ⟨rfl, by decide +kernel⟩) dX12_next_302 (fun M37 hM38 => ?_)
              refine JJ_aload_n dX12_next_305 rfl rfl ?_
              refine JJ_iload_n dX12_next_306 rfl rfl ?_
              refine JJ_i2l dX12_next_307 ?_
              refine JJ_putl (cis := [12]) (k := 27) fa_X12_151 (by decide) hR.1 rfl (fun r hr => by cases hr; exact ⟨rfl, by decide +kernel⟩) dX12_next_308 (fun L39 hL40 => ?_)
              refine JJ_aload_n dX12_next_311 rfl rfl ?_
              refine JJ_dup dX12_next_312 rfl ?_
              refine JJ_geti (v := nI i) (cis := [12]) (k := 24) fa_X12_130 (by decide) hR.1 rfl (hX.1 24) (rd_n hM38 (by omega) (rd_n hM19 (by omega) (rd_n hM14 (by omega) h24))) dX12_next_313 ?_
              refine JJ_iconst (v := 1) dX12_next_316 rfl ?_
              refine JJ_iadd dX12_next_317 ?_
              refine JJ_eqi (x2 := nI (i + 1)) (nI_add (i) (1)) ?_
              refine JJ_puti (cis := [12]) (k := 24) fa_X12_130 (by decide) hR.1 rfl (fun r hr => by cases hr; exact ⟨rfl, by decide +kernel⟩) dX12_next_318 (fun M41 hM42 => ?_)
              refine JJ_vret dX12_next_321 rfl ?_
              exact ⟨rfl, M41, L39, rfl, by unfold TKS; rw [hsk]; exact ⟨hsm, (rd_n hM42 (by omega) (rd_n hM38 (by omega) (rd_n hM19 (by omega) (rd_s hM14)))), Or.inr (Or.inr (Or.inr (Or.inr (Or.inl ⟨hlt, Or.inr (Or.inl c36), (rd_n hM42 (by omega) (rd_s hM38)), (rd_s hM42), (rd_s hL40)⟩))))⟩, (fun b k z => rd_n hM42 (by omega) (rd_n hM38 (by omega) (rd_n hM19 (by omega) (rd_n hM14 (by omega) (hx b k (by omega)))))), (fun b k z => rd_n hL40 z (rfl))⟩
            · skip
              refine JJ_iload_n dX12_next_264 rfl rfl ?_
              refine JJ_bipush (v := 59) dX12_next_265 rfl ?_
              refine JJ_icmp_eq (tgt := 300) dX12_next_267 (by decide) (fun c43 => ?_) (fun c43 => ?_)
              · skip
                refine JJ_aload_n dX12_next_300 rfl rfl ?_
                refine JJ_iconst (v := 3) dX12_next_301 rfl ?_
                refine JJ_puti (cis := [12]) (k := 25) fa_X12_140 (by decide) hR.1 rfl (fun r hr => by cases hr; exact ⟨rfl, by decide +kernel⟩) dX12_next_302 (fun M44 hM45 => ?_)
                refine JJ_aload_n dX12_next_305 rfl rfl ?_
                refine JJ_iload_n dX12_next_306 rfl rfl ?_
                refine JJ_i2l dX12_next_307 ?_
                refine JJ_putl (cis := [12]) (k := 27) fa_X12_151 (by decide) hR.1 rfl (fun r hr => by cases hr; exact ⟨rfl, by decide +kernel⟩) dX12_next_308 (fun L46 hL47 => ?_)
                refine JJ_aload_n dX12_next_311 rfl rfl ?_
                refine JJ_dup dX12_next_312 rfl ?_
                refine JJ_geti (v := nI i) (cis := [12]) (k := 24) fa_X12_130 (by decide) hR.1 rfl (hX.1 24) (rd_n hM45 (by omega) (rd_n hM19 (by omega) (rd_n hM14 (by omega) h24))) dX12_next_313 ?_
                refine JJ_iconst (v := 1) dX12_next_316 rfl ?_
                refine JJ_iadd dX12_next_317 ?_
                refine JJ_eqi (x2 := nI (i + 1)) (nI_add (i) (1)) ?_
                refine JJ_puti (cis := [12]) (k := 24) fa_X12_130 (by decide) hR.1 rfl (fun r hr => by cases hr; exact ⟨rfl, by decide +kernel⟩) dX12_next_318 (fun M48 hM49 => ?_)
                refine JJ_vret dX12_next_321 rfl ?_
                exact ⟨rfl, M48, L46, rfl, by unfold TKS; rw [hsk]; exact ⟨hsm, (rd_n hM49 (by omega) (rd_n hM45 (by omega) (rd_n hM19 (by omega) (rd_s hM14)))), Or.inr (Or.inr (Or.inr (Or.inr (Or.inl ⟨hlt, Or.inr (Or.inr (Or.inl c43)), (rd_n hM49 (by omega) (rd_s hM45)), (rd_s hM49), (rd_s hL47)⟩))))⟩, (fun b k z => rd_n hM49 (by omega) (rd_n hM45 (by omega) (rd_n hM19 (by omega) (rd_n hM14 (by omega) (hx b k (by omega)))))), (fun b k z => rd_n hL47 z (rfl))⟩
              · skip
                refine JJ_iload_n dX12_next_270 rfl rfl ?_
                refine JJ_bipush (v := 43) dX12_next_271 rfl ?_
                refine JJ_icmp_eq (tgt := 300) dX12_next_273 (by decide) (fun c50 => ?_) (fun c50 => ?_)
                · skip
                  refine JJ_aload_n dX12_next_300 rfl rfl ?_
                  refine JJ_iconst (v := 3) dX12_next_301 rfl ?_
                  refine JJ_puti (cis := [12]) (k := 25) fa_X12_140 (by decide) hR.1 rfl (fun r hr => by cases hr; exact ⟨rfl, by decide +kernel⟩) dX12_next_302 (fun M51 hM52 => ?_)
                  refine JJ_aload_n dX12_next_305 rfl rfl ?_
                  refine JJ_iload_n dX12_next_306 rfl rfl ?_
                  refine JJ_i2l dX12_next_307 ?_
                  refine JJ_putl (cis := [12]) (k := 27) fa_X12_151 (by decide) hR.1 rfl (fun r hr => by cases hr; exact ⟨rfl, by decide +kernel⟩) dX12_next_308 (fun L53 hL54 => ?_)
                  refine JJ_aload_n dX12_next_311 rfl rfl ?_
                  refine JJ_dup dX12_next_312 rfl ?_
                  refine JJ_geti (v := nI i) (cis := [12]) (k := 24) fa_X12_130 (by decide) hR.1 rfl (hX.1 24) (rd_n hM52 (by omega) (rd_n hM19 (by omega) (rd_n hM14 (by omega) h24))) dX12_next_313 ?_
                  refine JJ_iconst (v := 1) dX12_next_316 rfl ?_
                  refine JJ_iadd dX12_next_317 ?_
                  refine JJ_eqi (x2 := nI (i + 1)) (nI_add (i) (1)) ?_
                  refine JJ_puti (cis := [12]) (k := 24) fa_X12_130 (by decide) hR.1 rfl (fun r hr => by cases hr; exact ⟨rfl, by decide +kernel⟩) dX12_next_318 (fun M55 hM56 => ?_)
                  refine JJ_vret dX12_next_321 rfl ?_
                  exact ⟨rfl, M55, L53, rfl, by unfold TKS; rw [hsk]; exact ⟨hsm, (rd_n hM56 (by omega) (rd_n hM52 (by omega) (rd_n hM19 (by omega) (rd_s hM14)))), Or.inr (Or.inr (Or.inr (Or.inr (Or.inl ⟨hlt, Or.inr (Or.inr (Or.inr (Or.inl c50))), (rd_n hM56 (by omega) (rd_s hM52)), (rd_s hM56), (rd_s hL54)⟩))))⟩, (fun b k z => rd_n hM56 (by omega) (rd_n hM52 (by omega) (rd_n hM19 (by omega) (rd_n hM14 (by omega) (hx b k (by omega)))))), (fun b k z => rd_n hL54 z (rfl))⟩
                · skip
                  refine JJ_iload_n dX12_next_276 rfl rfl ?_
                  refine JJ_bipush (v := 45) dX12_next_277 rfl ?_
                  refine JJ_icmp_eq (tgt := 300) dX12_next_279 (by decide) (fun c57 => ?_) (fun c57 => ?_)
                  · skip
                    refine JJ_aload_n dX12_next_300 rfl rfl ?_
                    refine JJ_iconst (v := 3) dX12_next_301 rfl ?_
                    refine JJ_puti (cis := [12]) (k := 25) fa_X12_140 (by decide) hR.1 rfl (fun r hr => by cases hr; exact ⟨rfl, by decide +kernel⟩) dX12_next_302 (fun M58 hM59 => ?_)
                    refine JJ_aload_n dX12_next_305 rfl rfl ?_
                    refine JJ_iload_n dX12_next_306 rfl rfl ?_
                    refine JJ_i2l dX12_next_307 ?_
                    refine JJ_putl (cis := [12]) (k := 27) fa_X12_151 (by decide) hR.1 rfl (fun r hr => by cases hr; exact ⟨rfl, by decide +kernel⟩) dX12_next_308 (fun L60 hL61 => ?_)
                    refine JJ_aload_n dX12_next_311 rfl rfl ?_
                    refine JJ_dup dX12_next_312 rfl ?_
                    refine JJ_geti (v := nI i) (cis := [12]) (k := 24) fa_X12_130 (by decide) hR.1 rfl (hX.1 24) (rd_n hM59 (by omega) (rd_n hM19 (by omega) (rd_n hM14 (by omega) h24))) dX12_next_313 ?_
                    refine JJ_iconst (v := 1) dX12_next_316 rfl ?_
                    refine JJ_iadd dX12_next_317 ?_
                    refine JJ_eqi (x2 := nI (i + 1)) (nI_add (i) (1)) ?_
                    refine JJ_puti (cis := [12]) (k := 24) fa_X12_130 (by decide) hR.1 rfl (fun r hr => by cases hr; exact ⟨rfl, by decide +kernel⟩) dX12_next_318 (fun M62 hM63 => ?_)
                    refine JJ_vret dX12_next_321 rfl ?_
                    exact ⟨rfl, M62, L60, rfl, by unfold TKS; rw [hsk]; exact ⟨hsm, (rd_n hM63 (by omega) (rd_n hM59 (by omega) (rd_n hM19 (by omega) (rd_s hM14)))), Or.inr (Or.inr (Or.inr (Or.inr (Or.inl ⟨hlt, Or.inr (Or.inr (Or.inr (Or.inr (Or.inl c57)))), (rd_n hM63 (by omega) (rd_s hM59)), (rd_s hM63), (rd_s hL61)⟩))))⟩, (fun b k z => rd_n hM63 (by omega) (rd_n hM59 (by omega) (rd_n hM19 (by omega) (rd_n hM14 (by omega) (hx b k (by omega)))))), (fun b k z => rd_n hL61 z (rfl))⟩
                  · skip
                    refine JJ_iload_n dX12_next_282 rfl rfl ?_
                    refine JJ_bipush (v := 42) dX12_next_283 rfl ?_
                    refine JJ_icmp_eq (tgt := 300) dX12_next_285 (by decide) (fun c64 => ?_) (fun c64 => ?_)
                    · skip
                      refine JJ_aload_n dX12_next_300 rfl rfl ?_
                      refine JJ_iconst (v := 3) dX12_next_301 rfl ?_
                      refine JJ_puti (cis := [12]) (k := 25) fa_X12_140 (by decide) hR.1 rfl (fun r hr => by cases hr; exact ⟨rfl, by decide +kernel⟩) dX12_next_302 (fun M65 hM66 => ?_)
                      refine JJ_aload_n dX12_next_305 rfl rfl ?_
                      refine JJ_iload_n dX12_next_306 rfl rfl ?_
                      refine JJ_i2l dX12_next_307 ?_
                      refine JJ_putl (cis := [12]) (k := 27) fa_X12_151 (by decide) hR.1 rfl (fun r hr => by cases hr; exact ⟨rfl, by decide +kernel⟩) dX12_next_308 (fun L67 hL68 => ?_)
                      refine JJ_aload_n dX12_next_311 rfl rfl ?_
                      refine JJ_dup dX12_next_312 rfl ?_
                      refine JJ_geti (v := nI i) (cis := [12]) (k := 24) fa_X12_130 (by decide) hR.1 rfl (hX.1 24) (rd_n hM66 (by omega) (rd_n hM19 (by omega) (rd_n hM14 (by omega) h24))) dX12_next_313 ?_
                      refine JJ_iconst (v := 1) dX12_next_316 rfl ?_
                      refine JJ_iadd dX12_next_317 ?_
                      refine JJ_eqi (x2 := nI (i + 1)) (nI_add (i) (1)) ?_
                      refine JJ_puti (cis := [12]) (k := 24) fa_X12_130 (by decide) hR.1 rfl (fun r hr => by cases hr; exact ⟨rfl, by decide +kernel⟩) dX12_next_318 (fun M69 hM70 => ?_)
                      refine JJ_vret dX12_next_321 rfl ?_
                      exact ⟨rfl, M69, L67, rfl, by unfold TKS; rw [hsk]; exact ⟨hsm, (rd_n hM70 (by omega) (rd_n hM66 (by omega) (rd_n hM19 (by omega) (rd_s hM14)))), Or.inr (Or.inr (Or.inr (Or.inr (Or.inl ⟨hlt, Or.inr (Or.inr (Or.inr (Or.inr (Or.inr (Or.inl c64))))), (rd_n hM70 (by omega) (rd_s hM66)), (rd_s hM70), (rd_s hL68)⟩))))⟩, (fun b k z => rd_n hM70 (by omega) (rd_n hM66 (by omega) (rd_n hM19 (by omega) (rd_n hM14 (by omega) (hx b k (by omega)))))), (fun b k z => rd_n hL68 z (rfl))⟩
                    · skip
                      refine JJ_iload_n dX12_next_288 rfl rfl ?_
                      refine JJ_bipush (v := 60) dX12_next_289 rfl ?_
                      refine JJ_icmp_eq (tgt := 300) dX12_next_291 (by decide) (fun c71 => ?_) (fun c71 => ?_)
                      · skip
                        refine JJ_aload_n dX12_next_300 rfl rfl ?_
                        refine JJ_iconst (v := 3) dX12_next_301 rfl ?_
                        refine JJ_puti (cis := [12]) (k := 25) fa_X12_140 (by decide) hR.1 rfl (fun r hr => by cases hr; exact ⟨rfl, by decide +kernel⟩) dX12_next_302 (fun M72 hM73 => ?_)
                        refine JJ_aload_n dX12_next_305 rfl rfl ?_
                        refine JJ_iload_n dX12_next_306 rfl rfl ?_
                        refine JJ_i2l dX12_next_307 ?_
                        refine JJ_putl (cis := [12]) (k := 27) fa_X12_151 (by decide) hR.1 rfl (fun r hr => by cases hr; exact ⟨rfl, by decide +kernel⟩) dX12_next_308 (fun L74 hL75 => ?_)
                        refine JJ_aload_n dX12_next_311 rfl rfl ?_
                        refine JJ_dup dX12_next_312 rfl ?_
                        refine JJ_geti (v := nI i) (cis := [12]) (k := 24) fa_X12_130 (by decide) hR.1 rfl (hX.1 24) (rd_n hM73 (by omega) (rd_n hM19 (by omega) (rd_n hM14 (by omega) h24))) dX12_next_313 ?_
                        refine JJ_iconst (v := 1) dX12_next_316 rfl ?_
                        refine JJ_iadd dX12_next_317 ?_
                        refine JJ_eqi (x2 := nI (i + 1)) (nI_add (i) (1)) ?_
                        refine JJ_puti (cis := [12]) (k := 24) fa_X12_130 (by decide) hR.1 rfl (fun r hr => by cases hr; exact ⟨rfl, by decide +kernel⟩) dX12_next_318 (fun M76 hM77 => ?_)
                        refine JJ_vret dX12_next_321 rfl ?_
                        exact ⟨rfl, M76, L74, rfl, by unfold TKS; rw [hsk]; exact ⟨hsm, (rd_n hM77 (by omega) (rd_n hM73 (by omega) (rd_n hM19 (by omega) (rd_s hM14)))), Or.inr (Or.inr (Or.inr (Or.inr (Or.inl ⟨hlt, Or.inr (Or.inr (Or.inr (Or.inr (Or.inr (Or.inr (Or.inl c71)))))), (rd_n hM77 (by omega) (rd_s hM73)), (rd_s hM77), (rd_s hL75)⟩))))⟩, (fun b k z => rd_n hM77 (by omega) (rd_n hM73 (by omega) (rd_n hM19 (by omega) (rd_n hM14 (by omega) (hx b k (by omega)))))), (fun b k z => rd_n hL75 z (rfl))⟩
                      · skip
                        refine JJ_iload_n dX12_next_294 rfl rfl ?_
                        refine JJ_bipush (v := 61) dX12_next_295 rfl ?_
                        refine JJ_icmp_ne (tgt := 321) dX12_next_297 (by decide) (fun c78 => ?_) (fun c78 => ?_)
                        · skip
                          refine JJ_vret dX12_next_321 rfl ?_
                          exact ⟨rfl, M18, L, rfl, by unfold TKS; rw [hsk]; exact ⟨hsm, (rd_n hM19 (by omega) (rd_s hM14)), Or.inr (Or.inr (Or.inr (Or.inr (Or.inr ⟨hlt, (fun z => b2_0.mp c24 (isLt_i.mp z)), (fun z => b2_0.mp c28 (isDg_i.mp z)), (fun z => z.elim c29 (fun z => z.elim c36 (fun z => z.elim c43 (fun z => z.elim c50 (fun z => z.elim c57 (fun z => z.elim c64 (fun z => z.elim c71 c78))))))), (rd_s hM19)⟩))))⟩, (fun b k z => rd_n hM19 (by omega) (rd_n hM14 (by omega) (hx b k (by omega)))), (fun b k z => rfl)⟩
                        · skip
                          refine JJ_aload_n dX12_next_300 rfl rfl ?_
                          refine JJ_iconst (v := 3) dX12_next_301 rfl ?_
                          refine JJ_puti (cis := [12]) (k := 25) fa_X12_140 (by decide) hR.1 rfl (fun r hr => by cases hr; exact ⟨rfl, by decide +kernel⟩) dX12_next_302 (fun M79 hM80 => ?_)
                          refine JJ_aload_n dX12_next_305 rfl rfl ?_
                          refine JJ_iload_n dX12_next_306 rfl rfl ?_
                          refine JJ_i2l dX12_next_307 ?_
                          refine JJ_putl (cis := [12]) (k := 27) fa_X12_151 (by decide) hR.1 rfl (fun r hr => by cases hr; exact ⟨rfl, by decide +kernel⟩) dX12_next_308 (fun L81 hL82 => ?_)
                          refine JJ_aload_n dX12_next_311 rfl rfl ?_
                          refine JJ_dup dX12_next_312 rfl ?_
                          refine JJ_geti (v := nI i) (cis := [12]) (k := 24) fa_X12_130 (by decide) hR.1 rfl (hX.1 24) (rd_n hM80 (by omega) (rd_n hM19 (by omega) (rd_n hM14 (by omega) h24))) dX12_next_313 ?_
                          refine JJ_iconst (v := 1) dX12_next_316 rfl ?_
                          refine JJ_iadd dX12_next_317 ?_
                          refine JJ_eqi (x2 := nI (i + 1)) (nI_add (i) (1)) ?_
                          refine JJ_puti (cis := [12]) (k := 24) fa_X12_130 (by decide) hR.1 rfl (fun r hr => by cases hr; exact ⟨rfl, by decide +kernel⟩) dX12_next_318 (fun M83 hM84 => ?_)
                          refine JJ_vret dX12_next_321 rfl ?_
                          exact ⟨rfl, M83, L81, rfl, by unfold TKS; rw [hsk]; exact ⟨hsm, (rd_n hM84 (by omega) (rd_n hM80 (by omega) (rd_n hM19 (by omega) (rd_s hM14)))), Or.inr (Or.inr (Or.inr (Or.inr (Or.inl ⟨hlt, Or.inr (Or.inr (Or.inr (Or.inr (Or.inr (Or.inr (Or.inr (c78))))))), (rd_n hM84 (by omega) (rd_s hM80)), (rd_s hM84), (rd_s hL82)⟩))))⟩, (fun b k z => rd_n hM84 (by omega) (rd_n hM80 (by omega) (rd_n hM19 (by omega) (rd_n hM14 (by omega) (hx b k (by omega)))))), (fun b k z => rd_n hL82 z (rfl))⟩
        · skip
          refine JJ_aload_n dX12_next_148 rfl rfl ?_
          refine JJ_iconst (v := 2) dX12_next_149 rfl ?_
          refine JJ_puti (cis := [12]) (k := 25) fa_X12_140 (by decide) hR.1 rfl (fun r hr => by cases hr; exact ⟨rfl, by decide +kernel⟩) dX12_next_150 (fun M85 hM86 => ?_)
          refine JJ_aload_n dX12_next_153 rfl rfl ?_
          refine JJ_lconst (v := 0) dX12_next_154 rfl ?_
          refine JJ_putl (cis := [12]) (k := 27) fa_X12_151 (by decide) hR.1 rfl (fun r hr => by cases hr; exact ⟨rfl, by decide +kernel⟩) dX12_next_155 (fun L87 hL88 => ?_)
          refine JJ_iconst (v := 0) dX12_next_158 rfl ?_
          refine JJ_istore_n (lv' := [(2, .int 0), (1, .int ((TB o r M) i)), (0, .ref o)]) dX12_next_159 rfl (by decide) rfl ?_
          have e26 : M85 o 26 = nI i := (rd_n hM86 (by omega) (rd_n hM19 (by omega) (rd_s hM14)))
          have e24 : M85 o 24 = nI i := (rd_n hM86 (by omega) (rd_n hM19 (by omega) (rd_n hM14 (by omega) h24)))
          have hdig : isDg ((TB o r M) i) := isDg_i.mpr (b2_n.mp c28)
          have e27 : (L87 o 27).toInt32 = dgs (TB o r M) i 0 := by rw [(rd_s hL88)]; rfl
          have f3 : ∀ b k, ¬ NF o b k → M85 b k = M b k := (fun b k z => rd_n hM86 (by omega) (rd_n hM19 (by omega) (rd_n hM14 (by omega) (hx b k (by omega)))))
          have fl3 : ∀ b k, ¬ (b = o ∧ k = 27) → L87 b k = L b k := (fun b k z => rd_n hL88 z (rfl))
          have keyD : ∀ (d q : Nat) (My : Nat → Nat → Int32) (Ly : Nat → Nat → Int64), i + q + d = m → skD (TB o r M) m (i + q) = skD (TB o r M) m i → My o 24 = nI (i + q) → My o 26 = nI i → (q ≤ 4 → (Ly o 27).toInt32 = dgs (TB o r M) i q) → (∀ b k, ¬ NF o b k → My b k = M b k) → (∀ b k, ¬ (b = o ∧ k = 27) → Ly b k = L b k) → JJ G sc yX12_next cX12_next 3 none 2 0 0 (fun v μ => v = none ∧ ∃ M' L', μ = (n, S, M', L', P) ∧ TKS o (TB o r M) m i0 M' L' ∧ (∀ b k, ¬ NF o b k → M' b k = M b k) ∧ ∀ b k, ¬ (b = o ∧ k = 27) → L' b k = L b k) 160 [(2, .int (nI q)), (0, .ref o)] [] (n, S, My, Ly, P) := by
            intro d
            induction d with
            | zero =>
              intro q My Ly hq hsd g24 g26 g27 hy hly
              refine JJ_aload_n dX12_next_160 rfl rfl ?_
              refine JJ_aload_n dX12_next_161 rfl rfl ?_
              refine JJ_geti (v := nI (i + q)) (cis := [12]) (k := 24) fa_X12_130 (by decide) hR.1 rfl (hX.1 24) g24 dX12_next_162 ?_
              refine JJ_callV (rest := []) hR.1 rfl rfl (kp_byteAt (i := i + q) (hg.keep (fun b k z => hy b k (by omega))) (by omega) hR hX) (by decide) mi_X12_byteAt lk_X12_133 rfl (Nat.le_of_ble_eq_true rfl) rfl rfl dX12_next_165 ?_
              intro v89 μ90 h91
              obtain ⟨rfl, rfl⟩ := h91
              refine JJ_r1 ?_
              refine JJ_eqi (x2 := (-1)) (by rw [TB_keep (fun b k z => hy b k (by omega))]; exact bt_out (by omega)) ?_
              refine JJ_i2l dX12_next_168 ?_
              refine JJ_ldc2 (v := 48) dX12_next_169 tb_1144 ?_
              refine JJ_ldc2 (v := 57) dX12_next_172 tb_1145 ?_
              refine JJ_callS (rest := []) (kr_in32 (v := (-1)) (lo := 48) (hi := 57) (a := 48) (b := 57) rfl rfl) (by decide) mi_X12_in lk_X12_82 rfl (Nat.le_of_ble_eq_true rfl) rfl rfl dX12_next_175 ?_
              intro v92 μ93 h94
              obtain ⟨rfl, rfl⟩ := h94
              refine JJ_r1 ?_
              refine JJ_if_eq (tgt := 235) dX12_next_178 (by decide) (fun _ => ?_) (fun c95 => absurd (by decide) c95)
              refine JJ_aload_n dX12_next_235 rfl rfl ?_
              refine JJ_iload_n dX12_next_236 rfl rfl ?_
              refine JJ_iconst (v := 4) dX12_next_237 rfl ?_
              refine JJ_icmp_le (tgt := 245) dX12_next_238 (by decide) (fun c96 => ?_) (fun c96 => ?_)
              · skip
                refine JJ_iconst (v := 2) dX12_next_245 rfl ?_
                refine JJ_puti (cis := [12]) (k := 25) fa_X12_140 (by decide) hR.1 rfl (fun r hr => by cases hr; exact ⟨rfl, by decide +kernel⟩) dX12_next_246 (fun M97 hM98 => ?_)
                refine JJ_goto (tgt := 321) dX12_next_249 (by decide) ?_
                refine JJ_vret dX12_next_321 rfl ?_
                have es : skD (TB o r M) m i = i + q := by rw [← hsd]; exact run_end (by omega)
                have eq1 : i + q - i = q := by omega
                have q4 : q ≤ 4 := (nI_leI (b := 4) (by omega) (by omega)).mp c96
                exact ⟨rfl, M97, Ly, rfl, by unfold TKS; rw [hsk]; exact ⟨hsm, (rd_n hM98 (by omega) g26), Or.inr (Or.inr (Or.inl ⟨hlt, hdig, by rw [es]; omega, (rd_s hM98), ((rd_n hM98 (by omega) g24)).trans (by rw [es]), by rw [es, eq1]; exact g27 q4⟩))⟩, (fun b k z => rd_n hM98 (by omega) (hy b k (by omega))), (fun b k z => hly b k z)⟩
              · skip
                refine JJ_iconst (v := 4) dX12_next_241 rfl ?_
                refine JJ_goto (tgt := 246) dX12_next_242 (by decide) ?_
                refine JJ_puti (cis := [12]) (k := 25) fa_X12_140 (by decide) hR.1 rfl (fun r hr => by cases hr; exact ⟨rfl, by decide +kernel⟩) dX12_next_246 (fun M99 hM100 => ?_)
                refine JJ_goto (tgt := 321) dX12_next_249 (by decide) ?_
                refine JJ_vret dX12_next_321 rfl ?_
                have es : skD (TB o r M) m i = i + q := by rw [← hsd]; exact run_end (by omega)
                have eq1 : i + q - i = q := by omega
                have q4 : ¬ q ≤ 4 := fun z => c96 ((nI_leI (b := 4) (by omega) (by omega)).mpr z)
                exact ⟨rfl, M99, Ly, rfl, by unfold TKS; rw [hsk]; exact ⟨hsm, (rd_n hM100 (by omega) g26), Or.inr (Or.inr (Or.inr (Or.inl ⟨hlt, hdig, by rw [es]; omega, (rd_s hM100)⟩)))⟩, (fun b k z => rd_n hM100 (by omega) (hy b k (by omega))), (fun b k z => hly b k z)⟩
            | succ d ihD =>
              intro q My Ly hq hsd g24 g26 g27 hy hly
              refine JJ_aload_n dX12_next_160 rfl rfl ?_
              refine JJ_aload_n dX12_next_161 rfl rfl ?_
              refine JJ_geti (v := nI (i + q)) (cis := [12]) (k := 24) fa_X12_130 (by decide) hR.1 rfl (hX.1 24) g24 dX12_next_162 ?_
              refine JJ_callV (rest := []) hR.1 rfl rfl (kp_byteAt (i := i + q) (hg.keep (fun b k z => hy b k (by omega))) (by omega) hR hX) (by decide) mi_X12_byteAt lk_X12_133 rfl (Nat.le_of_ble_eq_true rfl) rfl rfl dX12_next_165 ?_
              intro v101 μ102 h103
              obtain ⟨rfl, rfl⟩ := h103
              refine JJ_r1 ?_
              refine JJ_eqi (x2 := bt (TB o r M) m (i + q)) (by rw [TB_keep (fun b k z => hy b k (by omega))]) ?_
              refine JJ_i2l dX12_next_168 ?_
              refine JJ_ldc2 (v := 48) dX12_next_169 tb_1144 ?_
              refine JJ_ldc2 (v := 57) dX12_next_172 tb_1145 ?_
              refine JJ_callS (rest := []) (kr_in32 (v := (bt (TB o r M) m (i + q))) (lo := 48) (hi := 57) (a := 48) (b := 57) rfl rfl) (by decide) mi_X12_in lk_X12_82 rfl (Nat.le_of_ble_eq_true rfl) rfl rfl dX12_next_175 ?_
              intro v104 μ105 h106
              obtain ⟨rfl, rfl⟩ := h106
              refine JJ_r1 ?_
              refine JJ_if_eq (tgt := 235) dX12_next_178 (by decide) (fun c107 => ?_) (fun c107 => ?_)
              · skip
                refine JJ_aload_n dX12_next_235 rfl rfl ?_
                refine JJ_iload_n dX12_next_236 rfl rfl ?_
                refine JJ_iconst (v := 4) dX12_next_237 rfl ?_
                refine JJ_icmp_le (tgt := 245) dX12_next_238 (by decide) (fun c108 => ?_) (fun c108 => ?_)
                · skip
                  refine JJ_iconst (v := 2) dX12_next_245 rfl ?_
                  refine JJ_puti (cis := [12]) (k := 25) fa_X12_140 (by decide) hR.1 rfl (fun r hr => by cases hr; exact ⟨rfl, by decide +kernel⟩) dX12_next_246 (fun M109 hM110 => ?_)
                  refine JJ_goto (tgt := 321) dX12_next_249 (by decide) ?_
                  refine JJ_vret dX12_next_321 rfl ?_
                  have es : skD (TB o r M) m i = i + q := by rw [← hsd]; exact run_n (fun z => b2_0.mp c107 (isDg_i.mp z))
                  have eq1 : i + q - i = q := by omega
                  have q4 : q ≤ 4 := (nI_leI (b := 4) (by omega) (by omega)).mp c108
                  exact ⟨rfl, M109, Ly, rfl, by unfold TKS; rw [hsk]; exact ⟨hsm, (rd_n hM110 (by omega) g26), Or.inr (Or.inr (Or.inl ⟨hlt, hdig, by rw [es]; omega, (rd_s hM110), ((rd_n hM110 (by omega) g24)).trans (by rw [es]), by rw [es, eq1]; exact g27 q4⟩))⟩, (fun b k z => rd_n hM110 (by omega) (hy b k (by omega))), (fun b k z => hly b k z)⟩
                · skip
                  refine JJ_iconst (v := 4) dX12_next_241 rfl ?_
                  refine JJ_goto (tgt := 246) dX12_next_242 (by decide) ?_
                  refine JJ_puti (cis := [12]) (k := 25) fa_X12_140 (by decide) hR.1 rfl (fun r hr => by cases hr; exact ⟨rfl, by decide +kernel⟩) dX12_next_246 (fun M111 hM112 => ?_)
                  refine JJ_goto (tgt := 321) dX12_next_249 (by decide) ?_
                  refine JJ_vret dX12_next_321 rfl ?_
                  have es : skD (TB o r M) m i = i + q := by rw [← hsd]; exact run_n (fun z => b2_0.mp c107 (isDg_i.mp z))
                  have eq1 : i + q - i = q := by omega
                  have q4 : ¬ q ≤ 4 := fun z => c108 ((nI_leI (b := 4) (by omega) (by omega)).mpr z)
                  exact ⟨rfl, M111, Ly, rfl, by unfold TKS; rw [hsk]; exact ⟨hsm, (rd_n hM112 (by omega) g26), Or.inr (Or.inr (Or.inr (Or.inl ⟨hlt, hdig, by rw [es]; omega, (rd_s hM112)⟩)))⟩, (fun b k z => rd_n hM112 (by omega) (hy b k (by omega))), (fun b k z => hly b k z)⟩
              · skip
                refine JJ_aload_n dX12_next_181 rfl rfl ?_
                refine JJ_iload_n dX12_next_182 rfl rfl ?_
                refine JJ_iconst (v := 4) dX12_next_183 rfl ?_
                refine JJ_icmp_ge (tgt := 212) dX12_next_184 (by decide) (fun c113 => ?_) (fun c113 => ?_)
                · skip
                  refine JJ_aload_n dX12_next_212 rfl rfl ?_
                  refine JJ_getl (v := Ly o 27) (cis := [12]) (k := 27) fa_X12_151 (by decide) hR.1 rfl (hX.1 27) rfl dX12_next_213 ?_
                  refine JJ_putl (cis := [12]) (k := 27) fa_X12_151 (by decide) hR.1 rfl (fun r hr => by cases hr; exact ⟨rfl, by decide +kernel⟩) dX12_next_216 (fun L114 hL115 => ?_)
                  refine JJ_iinc (v := nI (q + 1)) (lv' := [(2, .int (nI (q + 1))), (0, .ref o)]) dX12_next_219 rfl (nI_add (q) 1) (by decide) rfl ?_
                  refine JJ_aload_n dX12_next_222 rfl rfl ?_
                  refine JJ_dup dX12_next_223 rfl ?_
                  refine JJ_geti (v := nI (i + q)) (cis := [12]) (k := 24) fa_X12_130 (by decide) hR.1 rfl (hX.1 24) g24 dX12_next_224 ?_
                  refine JJ_iconst (v := 1) dX12_next_227 rfl ?_
                  refine JJ_iadd dX12_next_228 ?_
                  refine JJ_eqi (x2 := nI (i + q + 1)) (nI_add (i + q) (1)) ?_
                  refine JJ_puti (cis := [12]) (k := 24) fa_X12_130 (by decide) hR.1 rfl (fun r hr => by cases hr; exact ⟨rfl, by decide +kernel⟩) dX12_next_229 (fun M116 hM117 => ?_)
                  refine JJ_goto (tgt := 160) dX12_next_232 (by decide) ?_
                  refine JJ.pick [0, 1] rfl ?_
                  exact ihD (q + 1) M116 L114 (by omega) ((run_y (p := isDg) (isDg_i.mpr (b2_n.mp c107)) (by omega)).symm.trans hsd) (rd_s hM117) (rd_n hM117 (by omega) g26) (fun z => absurd ((nI_leI (a := 4) (by omega) (by omega)).mp c113) (by omega)) (fun b k z => rd_n hM117 (by omega) (hy b k (by omega))) (fun b k z => rd_n hL115 z (hly b k z))
                · skip
                  refine JJ_ldc2 (v := 10) dX12_next_187 tb_1146 ?_
                  refine JJ_aload_n dX12_next_190 rfl rfl ?_
                  refine JJ_getl (v := Ly o 27) (cis := [12]) (k := 27) fa_X12_151 (by decide) hR.1 rfl (hX.1 27) rfl dX12_next_191 ?_
                  refine JJ_lmul dX12_next_194 ?_
                  refine JJ_aload_n dX12_next_195 rfl rfl ?_
                  refine JJ_aload_n dX12_next_196 rfl rfl ?_
                  refine JJ_geti (v := nI (i + q)) (cis := [12]) (k := 24) fa_X12_130 (by decide) hR.1 rfl (hX.1 24) g24 dX12_next_197 ?_
                  refine JJ_callV (rest := [.long (10 * (Ly o 27)), .ref o]) hR.1 rfl rfl (kp_byteAt (i := i + q) (hg.keep (fun b k z => hy b k (by omega))) (by omega) hR hX) (by decide) mi_X12_byteAt lk_X12_133 rfl (Nat.le_of_ble_eq_true rfl) rfl rfl dX12_next_200 ?_
                  intro v118 μ119 h120
                  obtain ⟨rfl, rfl⟩ := h120
                  refine JJ_r1 ?_
                  refine JJ_eqi (x2 := bt (TB o r M) m (i + q)) (by rw [TB_keep (fun b k z => hy b k (by omega))]) ?_
                  refine JJ_i2l dX12_next_203 ?_
                  refine JJ_ladd dX12_next_204 ?_
                  refine JJ_ldc2 (v := 48) dX12_next_205 tb_1144 ?_
                  refine JJ_lsub dX12_next_208 ?_
                  refine JJ_goto (tgt := 216) dX12_next_209 (by decide) ?_
                  refine JJ_putl (cis := [12]) (k := 27) fa_X12_151 (by decide) hR.1 rfl (fun r hr => by cases hr; exact ⟨rfl, by decide +kernel⟩) dX12_next_216 (fun L121 hL122 => ?_)
                  refine JJ_iinc (v := nI (q + 1)) (lv' := [(2, .int (nI (q + 1))), (0, .ref o)]) dX12_next_219 rfl (nI_add (q) 1) (by decide) rfl ?_
                  refine JJ_aload_n dX12_next_222 rfl rfl ?_
                  refine JJ_dup dX12_next_223 rfl ?_
                  refine JJ_geti (v := nI (i + q)) (cis := [12]) (k := 24) fa_X12_130 (by decide) hR.1 rfl (hX.1 24) g24 dX12_next_224 ?_
                  refine JJ_iconst (v := 1) dX12_next_227 rfl ?_
                  refine JJ_iadd dX12_next_228 ?_
                  refine JJ_eqi (x2 := nI (i + q + 1)) (nI_add (i + q) (1)) ?_
                  refine JJ_puti (cis := [12]) (k := 24) fa_X12_130 (by decide) hR.1 rfl (fun r hr => by cases hr; exact ⟨rfl, by decide +kernel⟩) dX12_next_229 (fun M123 hM124 => ?_)
                  refine JJ_goto (tgt := 160) dX12_next_232 (by decide) ?_
                  refine JJ.pick [0, 1] rfl ?_
                  exact ihD (q + 1) M123 L121 (by omega) ((run_y (p := isDg) (isDg_i.mpr (b2_n.mp c107)) (by omega)).symm.trans hsd) (rd_s hM124) (rd_n hM124 (by omega) g26) (fun z => by rw [rd_s hL122, show bt (TB o r M) m (i + q) = (TB o r M) (i + q) from bt_in (by omega)]; exact dg_step (g27 (by omega))) (fun b k z => rd_n hM124 (by omega) (hy b k (by omega))) (fun b k z => rd_n hL122 z (hly b k z))
          refine JJ.pick [0, 2] rfl ?_
          exact keyD (m - i) 0 M85 L87 (by omega) rfl e24 e26 (fun _ => e27) f3 fl3
      · skip
        refine JJ_aload_n dX12_next_95 rfl rfl ?_
        refine JJ_iconst (v := 1) dX12_next_96 rfl ?_
        refine JJ_puti (cis := [12]) (k := 25) fa_X12_140 (by decide) hR.1 rfl (fun r hr => by cases hr; exact ⟨rfl, by decide +kernel⟩) dX12_next_97 (fun M125 hM126 => ?_)
        have e25 : M125 o 25 = 1 := (rd_s hM126)
        have e26 : M125 o 26 = nI i := (rd_n hM126 (by omega) (rd_n hM19 (by omega) (rd_s hM14)))
        have e24 : M125 o 24 = nI i := (rd_n hM126 (by omega) (rd_n hM19 (by omega) (rd_n hM14 (by omega) h24)))
        have hlet : isLt ((TB o r M) i) := isLt_i.mpr (b2_n.mp c24)
        have f3 : ∀ b k, ¬ NF o b k → M125 b k = M b k := (fun b k z => rd_n hM126 (by omega) (rd_n hM19 (by omega) (rd_n hM14 (by omega) (hx b k (by omega)))))
        have keyL : ∀ (d e : Nat) (My : Nat → Nat → Int32), e + d = m → skL (TB o r M) m e = skL (TB o r M) m i → My o 24 = nI e → My o 25 = 1 → My o 26 = nI i → (∀ b k, ¬ NF o b k → My b k = M b k) → JJ G sc yX12_next cX12_next 3 none 2 0 0 (fun v μ => v = none ∧ ∃ M' L', μ = (n, S, M', L', P) ∧ TKS o (TB o r M) m i0 M' L' ∧ (∀ b k, ¬ NF o b k → M' b k = M b k) ∧ ∀ b k, ¬ (b = o ∧ k = 27) → L' b k = L b k) 100 [(0, .ref o)] [] (n, S, My, L, P) := by
          intro d
          induction d with
          | zero =>
            intro e My he hsl g24 g25 g26 hy
            refine JJ_aload_n dX12_next_100 rfl rfl ?_
            refine JJ_aload_n dX12_next_101 rfl rfl ?_
            refine JJ_geti (v := nI e) (cis := [12]) (k := 24) fa_X12_130 (by decide) hR.1 rfl (hX.1 24) g24 dX12_next_102 ?_
            refine JJ_callV (rest := []) hR.1 rfl rfl (kp_byteAt (i := e) (hg.keep (fun b k z => hy b k (by omega))) (by omega) hR hX) (by decide) mi_X12_byteAt lk_X12_133 rfl (Nat.le_of_ble_eq_true rfl) rfl rfl dX12_next_105 ?_
            intro v127 μ128 h129
            obtain ⟨rfl, rfl⟩ := h129
            refine JJ_r1 ?_
            refine JJ_eqi (x2 := (-1)) (by rw [TB_keep (fun b k z => hy b k (by omega))]; exact bt_out (by omega)) ?_
            refine JJ_i2l dX12_next_108 ?_
            refine JJ_ldc2 (v := 97) dX12_next_109 tb_1142 ?_
            refine JJ_ldc2 (v := 122) dX12_next_112 tb_1143 ?_
            refine JJ_callS (rest := []) (kr_in32 (v := (-1)) (lo := 97) (hi := 122) (a := 97) (b := 122) rfl rfl) (by decide) mi_X12_in lk_X12_82 rfl (Nat.le_of_ble_eq_true rfl) rfl rfl dX12_next_115 ?_
            intro v130 μ131 h132
            obtain ⟨rfl, rfl⟩ := h132
            refine JJ_r1 ?_
            refine JJ_if_eq (tgt := 321) dX12_next_118 (by decide) (fun _ => ?_) (fun c133 => absurd (by decide) c133)
            refine JJ_vret dX12_next_321 rfl ?_
            exact ⟨rfl, My, L, rfl, by unfold TKS; rw [hsk]; exact ⟨hsm, g26, Or.inr (Or.inl ⟨hlt, hlet, g25, g24.trans (by rw [← hsl, show skL (TB o r M) m e = e from run_end (by omega)])⟩)⟩, (fun b k z => hy b k (by omega)), (fun b k z => rfl)⟩
          | succ d ihL =>
            intro e My he hsl g24 g25 g26 hy
            refine JJ_aload_n dX12_next_100 rfl rfl ?_
            refine JJ_aload_n dX12_next_101 rfl rfl ?_
            refine JJ_geti (v := nI e) (cis := [12]) (k := 24) fa_X12_130 (by decide) hR.1 rfl (hX.1 24) g24 dX12_next_102 ?_
            refine JJ_callV (rest := []) hR.1 rfl rfl (kp_byteAt (i := e) (hg.keep (fun b k z => hy b k (by omega))) (by omega) hR hX) (by decide) mi_X12_byteAt lk_X12_133 rfl (Nat.le_of_ble_eq_true rfl) rfl rfl dX12_next_105 ?_
            intro v134 μ135 h136
            obtain ⟨rfl, rfl⟩ := h136
            refine JJ_r1 ?_
            refine JJ_eqi (x2 := bt (TB o r M) m e) (by rw [TB_keep (fun b k z => hy b k (by omega))]) ?_
            refine JJ_i2l dX12_next_108 ?_
            refine JJ_ldc2 (v := 97) dX12_next_109 tb_1142 ?_
            refine JJ_ldc2 (v := 122) dX12_next_112 tb_1143 ?_
            refine JJ_callS (rest := []) (kr_in32 (v := (bt (TB o r M) m e)) (lo := 97) (hi := 122) (a := 97) (b := 122) rfl rfl) (by decide) mi_X12_in lk_X12_82 rfl (Nat.le_of_ble_eq_true rfl) rfl rfl dX12_next_115 ?_
            intro v137 μ138 h139
            obtain ⟨rfl, rfl⟩ := h139
            refine JJ_r1 ?_
            refine JJ_if_eq (tgt := 321) dX12_next_118 (by decide) (fun c140 => ?_) (fun c140 => ?_)
            · skip
              refine JJ_vret dX12_next_321 rfl ?_
              exact ⟨rfl, My, L, rfl, by unfold TKS; rw [hsk]; exact ⟨hsm, g26, Or.inr (Or.inl ⟨hlt, hlet, g25, g24.trans (by rw [← hsl, show skL (TB o r M) m e = e from run_n (fun z => b2_0.mp c140 (isLt_i.mp z))])⟩)⟩, (fun b k z => hy b k (by omega)), (fun b k z => rfl)⟩
            · skip
              refine JJ_aload_n dX12_next_121 rfl rfl ?_
              refine JJ_dup dX12_next_122 rfl ?_
              refine JJ_geti (v := nI e) (cis := [12]) (k := 24) fa_X12_130 (by decide) hR.1 rfl (hX.1 24) g24 dX12_next_123 ?_
              refine JJ_iconst (v := 1) dX12_next_126 rfl ?_
              refine JJ_iadd dX12_next_127 ?_
              refine JJ_eqi (x2 := nI (e + 1)) (nI_add (e) (1)) ?_
              refine JJ_puti (cis := [12]) (k := 24) fa_X12_130 (by decide) hR.1 rfl (fun r hr => by cases hr; exact ⟨rfl, by decide +kernel⟩) dX12_next_128 (fun M141 hM142 => ?_)
              refine JJ_goto (tgt := 100) dX12_next_131 (by decide) ?_
              exact ihL (e + 1) M141 (by omega) ((run_y (p := isLt) (isLt_i.mpr (b2_n.mp c140)) (by omega)).symm.trans hsl) (rd_s hM142) (rd_n hM142 (by omega) g25) (rd_n hM142 (by omega) g26) (fun b k z => rd_n hM142 (by omega) (hy b k (by omega)))
        refine JJ.pick [1] rfl ?_
        exact keyL (m - i) i M125 (by omega) rfl e24 e25 e26 f3
  have key : ∀ (d i : Nat) (Mx : Nat → Nat → Int32), i + d = m → skB (TB o r M) m i = skB (TB o r M) m i0 → Mx o 24 = nI i → (∀ b k, ¬ NF o b k → Mx b k = M b k) → JJ G sc yX12_next cX12_next 3 none 2 0 0 (fun v μ => v = none ∧ ∃ M' L', μ = (n, S, M', L', P) ∧ TKS o (TB o r M) m i0 M' L' ∧ (∀ b k, ¬ NF o b k → M' b k = M b k) ∧ ∀ b k, ¬ (b = o ∧ k = 27) → L' b k = L b k) 0 [(0, .ref o)] [] (n, S, Mx, L, P) := by
    intro d
    induction d with
    | zero =>
      intro i Mx hi hsk h24 hx
      refine JJ_aload_n dX12_next_0 rfl rfl ?_
      refine JJ_aload_n dX12_next_1 rfl rfl ?_
      refine JJ_geti (v := nI i) (cis := [12]) (k := 24) fa_X12_130 (by decide) hR.1 rfl (hX.1 24) h24 dX12_next_2 ?_
      refine JJ_callV (rest := []) hR.1 rfl rfl (kp_byteAt (i := i) (hg.keep (fun b k z => hx b k (by omega))) (by omega) hR hX) (by decide) mi_X12_byteAt lk_X12_133 rfl (Nat.le_of_ble_eq_true rfl) rfl rfl dX12_next_5 ?_
      intro v143 μ144 h145
      obtain ⟨rfl, rfl⟩ := h145
      refine JJ_r1 ?_
      refine JJ_eqi (x2 := (-1)) (by rw [TB_keep (fun b k z => hx b k (by omega))]; exact bt_out (by omega)) ?_
      refine JJ_bipush (v := 32) dX12_next_8 rfl ?_
      refine JJ_icmp_eq (tgt := 26) dX12_next_10 (by decide) (fun c146 => absurd c146 (by decide)) (fun _ => ?_)
      refine JJ_aload_n dX12_next_13 rfl rfl ?_
      refine JJ_aload_n dX12_next_14 rfl rfl ?_
      refine JJ_geti (v := nI i) (cis := [12]) (k := 24) fa_X12_130 (by decide) hR.1 rfl (hX.1 24) h24 dX12_next_15 ?_
      refine JJ_callV (rest := []) hR.1 rfl rfl (kp_byteAt (i := i) (hg.keep (fun b k z => hx b k (by omega))) (by omega) hR hX) (by decide) mi_X12_byteAt lk_X12_133 rfl (Nat.le_of_ble_eq_true rfl) rfl rfl dX12_next_18 ?_
      intro v147 μ148 h149
      obtain ⟨rfl, rfl⟩ := h149
      refine JJ_r1 ?_
      refine JJ_eqi (x2 := (-1)) (by rw [TB_keep (fun b k z => hx b k (by omega))]; exact bt_out (by omega)) ?_
      refine JJ_bipush (v := 10) dX12_next_21 rfl ?_
      refine JJ_icmp_ne (tgt := 39) dX12_next_23 (by decide) (fun _ => ?_) (fun c150 => absurd c150 (by decide))
      exact tail i Mx (by omega) (hsk.symm.trans (run_end (by omega))) h24 hx
    | succ d ihd =>
      intro i Mx hi hsk h24 hx
      refine JJ_aload_n dX12_next_0 rfl rfl ?_
      refine JJ_aload_n dX12_next_1 rfl rfl ?_
      refine JJ_geti (v := nI i) (cis := [12]) (k := 24) fa_X12_130 (by decide) hR.1 rfl (hX.1 24) h24 dX12_next_2 ?_
      refine JJ_callV (rest := []) hR.1 rfl rfl (kp_byteAt (i := i) (hg.keep (fun b k z => hx b k (by omega))) (by omega) hR hX) (by decide) mi_X12_byteAt lk_X12_133 rfl (Nat.le_of_ble_eq_true rfl) rfl rfl dX12_next_5 ?_
      intro v151 μ152 h153
      obtain ⟨rfl, rfl⟩ := h153
      refine JJ_r1 ?_
      refine JJ_eqi (x2 := bt (TB o r M) m i) (by rw [TB_keep (fun b k z => hx b k (by omega))]) ?_
      refine JJ_bipush (v := 32) dX12_next_8 rfl ?_
      refine JJ_icmp_eq (tgt := 26) dX12_next_10 (by decide) (fun c154 => ?_) (fun c154 => ?_)
      · skip
        refine JJ_aload_n dX12_next_26 rfl rfl ?_
        refine JJ_dup dX12_next_27 rfl ?_
        refine JJ_geti (v := nI i) (cis := [12]) (k := 24) fa_X12_130 (by decide) hR.1 rfl (hX.1 24) h24 dX12_next_28 ?_
        refine JJ_iconst (v := 1) dX12_next_31 rfl ?_
        refine JJ_iadd dX12_next_32 ?_
        refine JJ_eqi (x2 := nI (i + 1)) (nI_add (i) (1)) ?_
        refine JJ_puti (cis := [12]) (k := 24) fa_X12_130 (by decide) hR.1 rfl (fun r hr => by cases hr; exact ⟨rfl, by decide +kernel⟩) dX12_next_33 (fun M155 hM156 => ?_)
        refine JJ_goto (tgt := 0) dX12_next_36 (by decide) ?_
        exact ihd (i + 1) M155 (by omega) ((run_y (p := isBl) (Or.inl c154) (by omega)).symm.trans hsk) (rd_s hM156) (fun b k z => rd_n hM156 (by omega) (hx b k (by omega)))
      · skip
        refine JJ_aload_n dX12_next_13 rfl rfl ?_
        refine JJ_aload_n dX12_next_14 rfl rfl ?_
        refine JJ_geti (v := nI i) (cis := [12]) (k := 24) fa_X12_130 (by decide) hR.1 rfl (hX.1 24) h24 dX12_next_15 ?_
        refine JJ_callV (rest := []) hR.1 rfl rfl (kp_byteAt (i := i) (hg.keep (fun b k z => hx b k (by omega))) (by omega) hR hX) (by decide) mi_X12_byteAt lk_X12_133 rfl (Nat.le_of_ble_eq_true rfl) rfl rfl dX12_next_18 ?_
        intro v157 μ158 h159
        obtain ⟨rfl, rfl⟩ := h159
        refine JJ_r1 ?_
        refine JJ_eqi (x2 := bt (TB o r M) m i) (by rw [TB_keep (fun b k z => hx b k (by omega))]) ?_
        refine JJ_bipush (v := 10) dX12_next_21 rfl ?_
        refine JJ_icmp_ne (tgt := 39) dX12_next_23 (by decide) (fun c160 => ?_) (fun c160 => ?_)
        · skip
          exact tail i Mx (by omega) (hsk.symm.trans (run_n (fun z => z.elim c154 c160))) h24 hx
        · skip
          refine JJ_aload_n dX12_next_26 rfl rfl ?_
          refine JJ_dup dX12_next_27 rfl ?_
          refine JJ_geti (v := nI i) (cis := [12]) (k := 24) fa_X12_130 (by decide) hR.1 rfl (hX.1 24) h24 dX12_next_28 ?_
          refine JJ_iconst (v := 1) dX12_next_31 rfl ?_
          refine JJ_iadd dX12_next_32 ?_
          refine JJ_eqi (x2 := nI (i + 1)) (nI_add (i) (1)) ?_
          refine JJ_puti (cis := [12]) (k := 24) fa_X12_130 (by decide) hR.1 rfl (fun r hr => by cases hr; exact ⟨rfl, by decide +kernel⟩) dX12_next_33 (fun M161 hM162 => ?_)
          refine JJ_goto (tgt := 0) dX12_next_36 (by decide) ?_
          exact ihd (i + 1) M161 (by omega) ((run_y (p := isBl) (Or.inr c160) (by omega)).symm.trans hsk) (rd_s hM162) (fun b k z => rd_n hM162 (by omega) (hx b k (by omega)))
  exact key (m - i0) i0 M (by omega) rfl h24 (fun _ _ _ => rfl)
end RP2
