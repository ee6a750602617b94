/-! ===== a super call whose named class inherits the method ===== -/
def LSP (own : String) (idx : Nat) (x y : MethodName) : Prop := Cond.methodLink own idx x ∈ TBL ∧ Cond.sameMethod x.cls y.cls x.name x.desc ∈ TBL ∧ Cond.superclass own x.cls ∈ TBL ∧ Cond.superclass x.cls y.cls ∈ TBL ∧ Cond.instanceMethod y ∈ TBL ∧ y = ⟨y.cls, x.name, x.desc⟩ ∧ x.name ≠ "<init>"
theorem sub_two {vm : Vm} {c p : ClassId} {k : Class} (hk : vm.classes[c]? = some k) (hs : k.super = some p) : vm.isSubclass c p = true := by
  have hlt : c < vm.classes.size := (Array.getElem?_eq_some_iff.mp hk).1
  obtain ⟨n, hn⟩ : ∃ n, vm.classes.size = n + 1 := ⟨vm.classes.size - 1, (Nat.succ_pred_eq_of_pos (Nat.lt_of_le_of_lt (Nat.zero_le _) hlt)).symm⟩
  unfold Vm.isSubclass
  rw [hn]
  simp [Vm.isSubclassAux, hk, hs]
section JP
variable {G : Gx} {y : MethodName} {cc : ByteArray} {nL : Nat} {ret : Option FieldType} {d kc ks : Nat} {Φ : Option Value → Mem → Prop} {pc : Nat} {lv : List (Nat × Value)} {st : List Value} {μ : Mem}
variable {y' : MethodName} {cc' : ByteArray} {nL' : Nat} {ret' : Option FieldType} {d' mc' ms' kc' ks' idx : Nat} {As rest : List Value} {Φ' : Option Value → Mem → Prop}
theorem J_callSP {b ci : Nat} {r : vw_C} {x : MethodName} (hs : (sh μ b).1 = ci + 1) (hc : vwCl[ci]? = some r) (hK : K G y' cc' nL' ret' d' mc' ms' (.ref b :: As) μ Φ') (hd : d' < d) (hM : MI y' cc' nL' ret' As.length) (hL : LSP y.cls idx x y') (hst : st = As.reverse ++ .ref b :: rest) (hrest : (rest.map fun v => v.category).sum ≤ 8) (hk1 : kc' + mc' = kc) (hk2 : ks' + ms' = ks) (hdg : decode cc pc = .ok (.invokespecial idx, 3))
    (kk : ∀ v μ', Φ' v μ' → J G y cc nL ret d kc' ks' Φ (pc + 3) lv (v.toList ++ rest) μ') : J G y cc nL ret d kc ks Φ pc lv st μ := by
  refine J_run (a := (Value.ref b :: As).toArray) hk1 hk2 ?_ kk
  intro p l e s m args below meth c H locs cells slots mc ms ls C h1 h2 hS hW hl
  have hts := C.2.2.2.2.1
  obtain ⟨l1, l2, l3, l4, l5, l6, l7⟩ := hL
  obtain ⟨hfc, kB, hkB, -⟩ := (C.2.2.2.2.2.2.2.2.1.1.1 ci r hc).2
  obtain ⟨cellB, hcB, hoB, hclB⟩ := J_recv C hW hs hc
  have hcl : G.1 ci = cellB.cls := Option.some.inj (hfc.symm.trans hclB)
  have hkB : s.vm.classes[cellB.cls]? = some kB := by rw [← hcl]; exact hkB
  have hown := C.2.2.2.2.2.1
  have hK' : Back l (rmJ d mc ms) p e below s args y' 3 8 (PreOf (rmJ d mc ms) mc' ms' (va_Pc (.ref b :: As) (fun U => WLD G μ U.heap ∧ KS G U ∧ STR G U U.heap))) (PostOf (QJ G Φ') mc' ms' (gF G)) := back_of (bytes := cc') (maxL := nL') (ret := ret') (hK l) K_blind rfl rfl (by show d' + 2 + 1 ≤ d + 2; omega) (by have := hM.2.2.2; show 8 + (nL' + 11) + 40 * (d' + 2) ≤ 40 * (d + 2); omega) (pay_in hts (TBL_in hM.1)) List.mem_cons_self (fun a' U hW => word_at hW (Or.inl (by first | rfl | simp [Cond.onTables, Cond.keeps, Cond.steady])) (hts _ hM.2.1))
  intro T hT X
  obtain ⟨mk, methM, hnamed, hmethM, hstM, habM⟩ := Cond.instanceMethod_spec (hts _ l5)
  obtain ⟨methM', cM, hmethM', -, -, -, -, -, -, hsigM⟩ := Cond.code_spec hnamed (hts _ hM.1)
  cases hmethM.symm.trans hmethM'
  obtain ⟨ps, dk, kp, hps, hdk, hkp, hsuper, -, -, hnid⟩ := Cond.superclass_spec hown (hts _ l3)
  obtain ⟨ps2, kp', kp2, hps2, hdk2, hkp2, hsuper2, -⟩ := Cond.superclass_spec hps (hts _ l4)
  cases hkp.symm.trans hdk2
  have hn : s.methodNamed? ⟨y'.cls, x.name, x.desc⟩ = some mk := by rw [← l6]; exact hnamed
  have hpm : ps2 = mk.cls := Option.some.inj (hps2.symm.trans (findClass_of_methodNamed hnamed))
  have hsub : s.vm.isSubclass ps mk.cls = true := by rw [← hpm]; exact sub_two hkp hsuper2
  have hlen : ∀ sig, parseMethodDescriptor y'.desc = some sig → As.length = sig.parameters.length := fun sig h => by
    have h2 := hM.2.2.1.2.2
    rw [h] at h2
    exact (Option.some.inj h2).symm
  obtain ⟨vm₁, X₁, hstep₁⟩ := X.invokespecialUp C.1 hown (hts _ l1) (hts _ l2) hn hmethM hstM habM l7 hdk hnid hps hsuper hsub (a := b) (cell := cellB) (by rw [hT]; exact hcB)
    (fun z h => by rw [h] at hoB; cases hoB) hkB (g := F0 m pc ls st) rfl (argsL := As) (rest := rest) (hlen _ hsigM) hst (by rw [C.2.1]; exact hdg)
  have hpre := K_pre (As := .ref b :: As) (y := y) C hS hW
  obtain ⟨v, ⟨U', l2', c2, s2⟩, X', ⟨g', mk', t, L, e1, e2, hq, g1, hL, g2, g3⟩, hsteps⟩ := hK' m meth c ⟨T.setVm vm₁, locs, cells, slots⟩ { F0 m pc ls st with stack := rest } (.invokespecial idx) mk (Value.ref b :: As).toArray X₁ rfl (hl.1.trans C.2.2.2.1.symm) (by rw [C.2.1]; exact hdg) (lv_room hrest) (X₁.named hnamed) ⟨by show cells + mc' ≤ mc; omega, by show slots + ms' ≤ ms; omega, hpre (T.setVm vm₁) hT X₁.warmed⟩
  dsimp only [Pt.U, Pt.locs, Pt.cells, Pt.slots] at X' e1 e2 g1 g2 g3 hsteps
  subst g1; subst g2; subst g3
  exact ⟨v, (T.setVm vm₁).calling g' mk' (Value.ref b :: As).toArray, t, U', L, hT, X', hL, e1, e2, hq, fun target h => hstep₁ _ (by rw [doInvoke_state]; exact hsteps.trans h)⟩
theorem JJ_callSP {sc : Nat → Nat → Prop} {b ci : Nat} {r : vw_C} {x : MethodName} (hs : (sh μ b).1 = ci + 1) (hc : vwCl[ci]? = some r) (hK : KK G sc y' cc' nL' ret' d' mc' ms' (.ref b :: As) μ Φ') (hd : d' < d) (hM : MI y' cc' nL' ret' As.length) (hL : LSP y.cls idx x y') (hst : st = As.reverse ++ .ref b :: rest) (hrest : (rest.map fun v => v.category).sum ≤ 8) (hk1 : kc' + mc' = kc) (hk2 : ks' + ms' = ks) (hdg : decode cc pc = .ok (.invokespecial idx, 3))
    (kk : ∀ v μ', Φ' v μ' → JJ G sc y cc nL ret d kc' ks' Φ (pc + 3) lv (v.toList ++ rest) μ') : JJ G sc y cc nL ret d kc ks Φ pc lv st μ :=
  fun μ' h => J_callSP (by rw [h.2.1]; exact hs) hc (hK μ' h) hd hM hL hst hrest hk1 hk2 hdg (fun v ν ⟨ν0, h1, h2⟩ => kk v ν0 h2 ν h1)
end JP
theorem lk_X2_9 : LSP RX2 9 ⟨"MiddleOfCourt$Length", "comes", "(I)I"⟩ yX8_comes := ⟨tb_615, tb_616, tb_566, tb_530, tb_603, by decide +kernel, by decide⟩
theorem lk_X2_20 : LSP RX2 20 ⟨"MiddleOfCourt$Length", "spends", "()I"⟩ yX8_spends := ⟨tb_697, tb_698, tb_566, tb_530, tb_687, by decide +kernel, by decide⟩
