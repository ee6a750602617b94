/-! ===== rows for new cells and for calls ===== -/
theorem fv_new {μ : Mem} {κ κ' n k : Nat} : fv κ (newM μ κ' n) μ.1 k = fv κ (0, fun _ => (0, 0), fun _ _ => 0, fun _ _ => 0, fun _ _ => none) 0 k := by
  match κ with
  | 0 => show Value.int (upR _ _ _ _ k) = _; rw [show upR μ.2.2.1 μ.1 0 μ.1 k = 0 from if_pos rfl]; rfl
  | 1 => show Value.long (upR _ _ _ _ k) = _; rw [show upR μ.2.2.2.1 μ.1 0 μ.1 k = 0 from if_pos rfl]; rfl
  | n + 2 => show va_rf (upR _ _ _ _ k) = _; rw [show upR μ.2.2.2.2 μ.1 none μ.1 k = none from if_pos rfl]; rfl
theorem fv_old {μ : Mem} {κ κ' n k b : Nat} (h : b ≠ μ.1) : fv κ (newM μ κ' n) b k = fv κ μ b k := by
  match κ with
  | 0 => show Value.int (upR _ _ _ b k) = _; rw [show upR μ.2.2.1 μ.1 0 b k = μ.2.2.1 b k from if_neg h]; rfl
  | 1 => show Value.long (upR _ _ _ b k) = _; rw [show upR μ.2.2.2.1 μ.1 0 b k = μ.2.2.2.1 b k from if_neg h]; rfl
  | n + 2 => show va_rf (upR _ _ _ b k) = _; rw [show upR μ.2.2.2.2 μ.1 none b k = μ.2.2.2.2 b k from if_neg h]; rfl
theorem av_old {μ : Mem} {t κ' n b : Nat} (h : b ≠ μ.1) : av t (newM μ κ' n) b = av t μ b := by
  funext k
  match t with
  | 0 => show Value.int (upR _ _ _ b k) = _; rw [show upR μ.2.2.1 μ.1 0 b k = μ.2.2.1 b k from if_neg h]; rfl
  | 1 => show Value.int (upR _ _ _ b k) = _; rw [show upR μ.2.2.1 μ.1 0 b k = μ.2.2.1 b k from if_neg h]; rfl
  | n + 2 => show va_rf (upR _ _ _ b k) = _; rw [show upR μ.2.2.2.2 μ.1 none b k = μ.2.2.2.2 b k from if_neg h]; rfl
theorem av_new {μ : Mem} {t κ' n : Nat} : av t (newM μ κ' n) μ.1 = fun _ => if t < 2 then .int 0 else .null := by
  funext k
  match t with
  | 0 => show Value.int (upR _ _ _ _ k) = _; rw [show upR μ.2.2.1 μ.1 0 μ.1 k = 0 from if_pos rfl]; rfl
  | 1 => show Value.int (upR _ _ _ _ k) = _; rw [show upR μ.2.2.1 μ.1 0 μ.1 k = 0 from if_pos rfl]; rfl
  | n + 2 => show va_rf (upR _ _ _ _ k) = _; rw [show upR μ.2.2.2.2 μ.1 none μ.1 k = none from if_pos rfl, if_neg (by omega)]; rfl
theorem sh_new {μ : Mem} {κ n : Nat} : sh (newM μ κ n) μ.1 = (κ, n) := if_pos rfl
theorem sh_old {μ : Mem} {κ n b : Nat} (h : b ≠ μ.1) : sh (newM μ κ n) b = sh μ b := if_neg h
theorem wld_push {G : Gx} {μ : Mem} {κ n : Nat} {H H1 : Heap} (hW : WLD G μ H) (hz : H1.size = μ.1 + 1) (oq : ∀ q : Nat, q < μ.1 → H1[q]? = H[q]?)
    (ho : ∀ (ci : Nat) (r : vw_C), κ = ci + 1 → vwCl[ci]? = some r → t_OB μ.1 (G.1 ci) r.2.2 (G.2.1 ci) H1 (fun k => fv (fkd ci k) (newM μ κ n) μ.1 k))
    (ha : ∀ t : Nat, κ = 20 + t → H1[μ.1]? = some (arrV (gA G t) n (av t (newM μ κ n) μ.1))) : WLD G (newM μ κ n) H1 := by
  obtain ⟨w1, w2, w3, w4, w5⟩ := hW
  refine ⟨hz, by rw [hz]; omega, fun b hb => ?_, fun b ci r hb hr => ?_, fun b t hb => ?_⟩
  · rw [hz]
    by_cases hbn : b = μ.1
    · subst hbn; omega
    · rw [sh_old hbn] at hb
      have := w3 b hb
      omega
  · by_cases hbn : b = μ.1
    · subst hbn
      rw [sh_new] at hb
      exact ho ci r hb hr
    · rw [sh_old hbn] at hb
      have hlt := (w3 b (by omega)).2
      exact ((w4 b ci r hb hr).kept (oq b (by omega))).to (fun j hj => (fv_old hbn).symm)
  · by_cases hbn : b = μ.1
    · subst hbn
      rw [sh_new] at hb
      rw [sh_new]
      exact ha t hb
    · rw [sh_old hbn] at hb
      have hlt := (w3 b (by omega)).2
      rw [oq b (by omega), w5 b t hb, sh_old hbn, av_old hbn]
theorem va_S_push {A : Nat → Prop} {H0 H H1 : Heap} {locs : List Loc} (hS : va_S A H0 H locs) (hz : H1.size = H.size + 1) (oq : ∀ q : Nat, q < H.size → H1[q]? = H[q]?) : va_S A H0 H1 locs :=
  ⟨Nat.le_trans hS.1 (by omega), fun x h1 h2 => (oq x (Nat.lt_of_lt_of_le h1 hS.1)).trans (hS.2.1 x h1 h2), hS.2.2⟩
section JC
variable {G : Gx} {y : MethodName} {cc : ByteArray} {nL : Nat} {ret : Option FieldType} {d kc ks : Nat} {Φ : Option Value → Mem → Prop} {pc : Nat} {lv : List (Nat × Value)} {st : List Value} {μ : Mem}
theorem J_new {ci idx kc' ks' : Nat} {r : vw_C} (hc : vwCl[ci]? = some r) (hl1 : Cond.classLink y.cls idx r.1 ∈ TBL) (hl2 : Cond.instantiable r.1 r.2.2 ∈ TBL) (hl3 : Cond.initialized r.1 ∈ TBL) (hk1 : kc' + 1 = kc) (hk2 : ks' + r.2.2 = ks) (hdg : decode cc pc = .ok (.new idx, 3)) (kk : J G y cc nL ret d kc' ks' Φ (pc + 3) lv (.ref μ.1 :: st) (newM μ (ci + 1) 0)) : J G y cc nL ret d kc ks Φ pc lv st μ := by
  intro p l e s m args below meth c H locs cells slots mc ms ls C h1 h2 hS hW hl
  have hts := C.2.2.2.2.1
  have hKn := C.2.2.2.2.2.2.2.2.1.1.1 ci _ hc
  obtain ⟨ty, hty, hdef⟩ := cls_ty ci r hc
  refine W.newcK C.1 C.2.1 C.2.2.2.2.2.1 (hts _ hl1) (hts _ hl2) (hts _ hl3) rfl hdg (by show cells + 1 ≤ mc; omega) (by show slots + r.2.2 ≤ ms; omega) hKn.2.1 hW.1 fun H1 kC hkC e1 z1 o1 => ?_
  refine kk p l e s m args below meth c H1 locs _ _ mc ms ls C (by omega) (by omega) (va_S_push hS (by rw [z1, hW.1]) (fun q hq => o1 q (by rw [← hW.1]; exact hq))) (wld_push hW z1 o1 (fun cj r' hcj hr' => ?_) (fun t ht => ?_)) hl
  · have e : cj = ci := by omega
    subst e
    have er : r' = r := Option.some.inj (hr'.symm.trans hc)
    subst er
    exact (u_born ty hts (cls_in cj r' hc) hKn hkC e1 hty).to (fun k hk => by rw [fv_new]; exact hdef k hk)
  · have := cls_lt hc
    omega
theorem J_newa {t n kc' ks' : Nat} {x : Int32} {atype : ArrayType} (ht : t < 2) (hty : newarray.typeOf atype = aty t) (hw : Cond.arrayClass (newarray.typeOf atype) ∈ TBL) (hn : ¬ x < 0) (hN : x.toNatClampNeg = n) (hb : n ≤ 100000) (hk1 : kc' + 1 = kc) (hk2 : ks' + n = ks) (hdg : decode cc pc = .ok (.newarray atype, 2)) (kk : J G y cc nL ret d kc' ks' Φ (pc + 2) lv (.ref μ.1 :: st) (newM μ (20 + t) n)) : J G y cc nL ret d kc ks Φ pc lv (.int x :: st) μ := by
  intro p l e s m args below meth c H locs cells slots mc ms ls C h1 h2 hS hW hl
  have hts := C.2.2.2.2.1
  have hK := C.2.2.2.2.2.2.2.2.1.1
  refine va_newaK C.1 C.2.1 (hts _ hw) rfl hdg rfl hn hN (by rw [hty]; match t, ht with | 0, _ => (show n * 4 ≤ _; omega) | 1, _ => (show n * 1 ≤ _; omega)) (by show cells + 1 ≤ mc; omega) (by show slots + n ≤ ms; omega) hW.1 fun H1 cA e1 z1 o1 hAr hNm => ?_
  have hcA : cA = gA G t := by
    have hRA := (hK.2 t _ (gT_at G t (by omega))).2
    rw [hty] at hNm
    match t, ht, hRA, hNm with
    | 0, _, hRA, hNm => exact Option.some.inj (hNm.symm.trans hRA)
    | 1, _, hRA, hNm => exact Option.some.inj (hNm.symm.trans hRA)
  refine kk p l e s m args below meth c H1 locs _ _ mc ms ls C (by omega) (by omega) (va_S_push hS (by rw [z1, hW.1]) (fun q hq => o1 q (by rw [← hW.1]; exact hq))) (wld_push hW z1 o1 (fun cj r' hcj hr' => ?_) (fun t' ht' => ?_)) hl
  · have := cls_lt hr'
    omega
  · have e : t' = t := by omega
    subst e
    rw [e1, av_new, hty, hcA]
    match t', ht with
    | 0, _ => rfl
    | 1, _ => rfl
theorem J_anewa {t n idx kc' ks' : Nat} {x : Int32} {E : String} (ht : t < 4) (hty : aty (t + 2) = .object E) (hl1 : Cond.classLink y.cls idx E ∈ TBL) (ho : E ∈ OW) (hn : ¬ x < 0) (hN : x.toNatClampNeg = n) (hb : n ≤ 100000) (hk1 : kc' + 1 = kc) (hk2 : ks' + n = ks) (hdg : decode cc pc = .ok (.anewarray idx, 3)) (kk : J G y cc nL ret d kc' ks' Φ (pc + 3) lv (.ref μ.1 :: st) (newM μ (22 + t) n)) : J G y cc nL ret d kc ks Φ pc lv (.int x :: st) μ := by
  intro p l e s m args below meth c H locs cells slots mc ms ls C h1 h2 hS hW hl
  have hts := C.2.2.2.2.1
  have hKS := C.2.2.2.2.2.2.2.2.1
  have hK := hKS.1
  subst hN
  refine W.anew C.1 C.2.1 C.2.2.2.2.2.1 (hts _ hl1) (va_AO.use (hKS.2.2.2.1 E ho)) rfl hdg rfl hn (by omega) (by show cells + 1 ≤ mc; omega) (by show slots + _ ≤ ms; omega) fun cA kA comp f1 f2 f3 f4 => ?_
  have hcA : cA = gA G (t + 2) := by
    have hRA := (hK.2 (t + 2) _ (gT_at G (t + 2) (by omega))).2
    rw [hty] at hRA
    obtain ⟨-, -, -, -, -, h5⟩ := hRA
    exact Option.some.inj (f1.symm.trans h5)
  have hz := hW.1
  rw [hz]
  generalize hH1 : H.push ({ cls := cA, slots := Array.replicate x.toNatClampNeg .null, vm := .none } : Cell) = H1
  have z1 : H1.size = μ.1 + 1 := by rw [← hH1, Array.size_push, hz]
  have e1 : H1[μ.1]? = some (arrV cA x.toNatClampNeg (fun _ => .null)) := by rw [← hz, ← hH1, Array.getElem?_push_size, ← arrV_new]
  have o1 : ∀ q : Nat, q < μ.1 → H1[q]? = H[q]? := fun q hq => by rw [← hH1, Array.getElem?_push, if_neg (by omega)]
  refine kk p l e s m args below meth c H1 locs _ _ mc ms ls C (by omega) (by omega) (va_S_push hS (by omega) (fun q hq => o1 q (by omega))) (wld_push hW z1 o1 (fun cj r' hcj hr' => ?_) (fun t' ht' => ?_)) hl
  · have := cls_lt hr'
    omega
  · have e : t' = t + 2 := by omega
    subst e
    rw [e1, av_new, hcA, if_neg (by omega)]
/-! calls -/
def MI (y : MethodName) (cc : ByteArray) (nL : Nat) (ret : Option FieldType) (n : Nat) : Prop := Cond.code y cc nL ret ∈ TBL ∧ Cond.initialized y.cls ∈ TBL ∧ (y.cls ≠ "java/lang/invoke/MethodHandle" ∧ y.cls ≠ "java/lang/invoke/VarHandle" ∧ (parseMethodDescriptor y.desc).map (fun d => d.parameters.length) = some n) ∧ nL ≤ 21
def LkS (own : String) (idx : Nat) (y : MethodName) : Prop := Cond.methodLink own idx y ∈ TBL ∧ Cond.static y ∈ TBL
def LkSN (own : String) (idx : Nat) (y : MethodName) : Prop := (∃ host, Cond.methodLinkNest own idx y host ∈ NW) ∧ Cond.static y ∈ TBL
def LV (own : String) (idx : Nat) (y : MethodName) : Prop := Cond.methodLink own idx y ∈ TBL ∧ Cond.instanceMethod y ∈ TBL ∧ Cond.selects y.cls y y ∈ TBL
def LI (own : String) (idx : Nat) (y : MethodName) : Prop := Cond.methodLink own idx y ∈ TBL ∧ Cond.instanceMethod y ∈ TBL ∧ y.name = "<init>"
def LIN (own : String) (idx : Nat) (y : MethodName) : Prop := (∃ host, Cond.methodLinkNest own idx y host ∈ NW) ∧ Cond.instanceMethod y ∈ TBL ∧ y.name = "<init>"
/-- a virtual call: the named method x of a class, the class C of the receiver, the method y that it selects -/
def LU (own : String) (idx : Nat) (x : MethodName) (C : String) (y : MethodName) : Prop := Cond.methodLink own idx x ∈ TBL ∧ Cond.sameMethod x.cls x.cls x.name x.desc ∈ TBL ∧ Cond.selects C x y ∈ TBL ∧ Cond.instanceMethod y ∈ TBL ∧ (x.cls ≠ "java/lang/invoke/MethodHandle" ∧ x.cls ≠ "java/lang/invoke/VarHandle") ∧ parseMethodDescriptor x.desc = parseMethodDescriptor y.desc ∧ Cond.instanceMethod x ∈ TBL ∧ ∃ b0 m0 r0, Cond.code x b0 m0 r0 ∈ TBL
def LSU (own : String) (idx : Nat) (y : MethodName) : Prop := Cond.methodLink own idx y ∈ TBL ∧ Cond.sameMethod y.cls y.cls y.name y.desc ∈ TBL ∧ Cond.superclass own y.cls ∈ TBL ∧ Cond.instanceMethod y ∈ TBL ∧ y.name ≠ "<init>"
theorem K_blind {G : Gx} {As : List Value} {μ : Mem} : FrameBlind (va_Pc As (fun U => WLD G μ U.heap ∧ KS G U ∧ STR G U U.heap)) := by
  intro a U g mk h
  obtain ⟨h1, h2, h3, h4⟩ := h
  exact ⟨h1, h2, KS.same (u := U) rfl h3, STR.moved (u := U) (Vm.Alike.refl U.vm) h4⟩
theorem K_pre {G : Gx} {p : Program} {s : State} {m : MethodId} {args : Array Value} {meth : Method} {c : Code} {H : Heap} {locs : List Loc} {As : List Value} (C : Cx G y cc nL ret p s m args meth c) (hS : va_S (gF G) s.heap H locs) (hW : WLD G μ H) :
    ∀ U : State, U.heap = H → s.WarmedH U.vm → va_Pc As (fun U => WLD G μ U.heap ∧ KS G U ∧ STR G U U.heap) As.toArray U := by
  intro U hU hWm
  refine ⟨rfl, by rw [hU]; exact hW, C.2.2.2.2.2.2.2.2.1.warm hWm, ?_⟩
  rw [hU]
  exact (C.2.2.2.2.2.2.2.2.2.kept (fun a ha hn => hS.2.1 a ha hn)).moved hWm.alike
theorem J_run {mc' ms' kc' ks' : Nat} {Φ' : Option Value → Mem → Prop} {rest : List Value} {a : Array Value} (hk1 : kc' + mc' = kc) (hk2 : ks' + ms' = ks)
    (hr : ∀ (p : Program) (l : Launch) (e : Env) (s : State) (m : MethodId) (args : Array Value) (below : List Frame) (meth : Method) (c : Code) (H : Heap) (locs : List Loc) (cells slots mc ms : Nat) (ls : Array Slot),
      Cx G y cc nL ret p s m args meth c → cells + kc = mc → slots + ks = ms → va_S (gF G) s.heap H locs → WLD G μ H → lv_has ls nL lv →
      va_Run p l e (rmJ d mc ms) s m args below meth c H locs cells slots mc' ms' (F0 m pc ls st) rest (QJ G Φ' a) (gF G))
    (kk : ∀ v μ', Φ' v μ' → J G y cc nL ret d kc' ks' Φ (pc + 3) lv (v.toList ++ rest) μ') : J G y cc nL ret d kc ks Φ pc lv st μ := by
  intro p l e s m args below meth c H locs cells slots mc ms ls C h1 h2 hS hW hl T hT X
  obtain ⟨v, st₀, t, T', L, h0, X', hL, e1, e2, ⟨⟨v', μ', hv, hp, hw⟩, hz, hk⟩, stp⟩ := hr p l e s m args below meth c H locs cells slots mc ms ls C h1 h2 hS hW hl T hT X
  cases hv
  rw [h0] at hz hk
  obtain ⟨t2, a1, b1⟩ := kk v μ' hp p l e s m args below meth c T'.heap (locs ++ L) (cells + mc') (slots + ms') mc ms ls C (by omega) (by omega)
    ⟨Nat.le_trans hS.1 (by rw [e1]; exact hz), fun q h1 h2 => by rw [e1, hk q (Nat.lt_of_lt_of_le h1 hS.1) h2]; exact hS.2.1 q h1 h2, fun q hq => by
      rcases List.mem_append.mp hq with h | h
      · exact hS.2.2 q h
      · exact hL q h⟩ (by rw [e1]; exact hw) hl T' rfl X'
  exact ⟨t2, stp t2 a1, b1⟩
variable {y' : MethodName} {cc' : ByteArray} {nL' : Nat} {ret' : Option FieldType} {d' mc' ms' kc' ks' idx : Nat} {As rest : List Value} {Φ' : Option Value → Mem → Prop}
theorem J_callS (hK : K G y' cc' nL' ret' d' mc' ms' As μ Φ') (hd : d' < d) (hM : MI y' cc' nL' ret' As.length) (hL : LkS y.cls idx y') (hst : st = As.reverse ++ rest) (hrest : (rest.map fun v => v.category).sum ≤ 8) (hk1 : kc' + mc' = kc) (hk2 : ks' + ms' = ks) (hdg : decode cc pc = .ok (.invokestatic idx, 3))
    (kk : ∀ v μ', Φ' v μ' → J G y cc nL ret d kc' ks' Φ (pc + 3) lv (v.toList ++ rest) μ') : J G y cc nL ret d kc ks Φ pc lv st μ := by
  refine J_run (a := As.toArray) hk1 hk2 ?_ kk
  intro p l e s m args below meth c H locs cells slots mc ms ls C h1 h2 hS hW hl
  have hts := C.2.2.2.2.1
  have hG := TBL_in hM.1
  have hT : GoodIn TBL (va_wsS y.cls idx y' (.code y' cc' nL' ret' :: TBL)) := by
    intro w hw
    unfold va_wsS at hw
    rcases List.mem_append.mp hw with q | q
    · simp only [List.mem_cons, List.not_mem_nil, or_false] at q
      have hin : w ∈ TBL := by rcases q with rfl | rfl | rfl <;> first | exact hL.1 | exact hL.2 | exact hM.2.1
      exact ⟨hin, good_of_word (List.all_eq_true.mp TBL_good w hin)⟩
    · exact hG w q
  exact va_runS ⟨C.1, C.2.1, C.2.2.2.1, C.2.2.2.2.2.1, hts⟩ (hK l) (va_cwS As.length hts hT rfl rfl rfl hM.2.2.1 ⟨by show d' + 2 + 1 ≤ d + 2; omega, by have := hM.2.2.2; show 8 + (nL' + 11) + 40 * (d' + 2) ≤ 40 * (d + 2); omega⟩) ⟨K_blind, K_pre C hS hW⟩ rfl rfl hl.1 hst (lv_room hrest) hdg ⟨by show cells + mc' ≤ mc; omega, by show slots + ms' ≤ ms; omega⟩
theorem J_callSN (hK : K G y' cc' nL' ret' d' mc' ms' As μ Φ') (hd : d' < d) (hM : MI y' cc' nL' ret' As.length) (hL : LkSN y.cls idx y') (hst : st = As.reverse ++ rest) (hrest : (rest.map fun v => v.category).sum ≤ 8) (hk1 : kc' + mc' = kc) (hk2 : ks' + ms' = ks) (hdg : decode cc pc = .ok (.invokestatic idx, 3))
    (kk : ∀ v μ', Φ' v μ' → J G y cc nL ret d kc' ks' Φ (pc + 3) lv (v.toList ++ rest) μ') : J G y cc nL ret d kc ks Φ pc lv st μ := by
  refine J_run (a := As.toArray) hk1 hk2 ?_ kk
  intro p l e s m args below meth c H locs cells slots mc ms ls C h1 h2 hS hW hl
  have hts := C.2.2.2.2.1
  obtain ⟨⟨host, hN⟩, hs⟩ := hL
  exact va_runSN ⟨C.1, C.2.1, C.2.2.2.1, C.2.2.2.2.2.1, hts⟩ (hK l) ⟨va_cnB (host := host) As.length hts (TBL_in hM.1) rfl rfl rfl (C.2.2.2.2.2.2.2.2.1.2.1 _ hN) (hts _ hM.2.1) hM.2.2.1 ⟨by show d' + 2 + 1 ≤ d + 2; omega, by have := hM.2.2.2; show 8 + (nL' + 11) + 40 * (d' + 2) ≤ 40 * (d + 2); omega⟩, hts _ hs, trivial⟩ ⟨K_blind, K_pre C hS hW⟩ rfl rfl hl.1 hst (lv_room hrest) hdg ⟨by show cells + mc' ≤ mc; omega, by show slots + ms' ≤ ms; omega⟩
theorem J_recv {G : Gx} {p : Program} {s : State} {m : MethodId} {args : Array Value} {meth : Method} {c : Code} {H : Heap} {b ci : Nat} {r : vw_C} (C : Cx G y cc nL ret p s m args meth c) (hW : WLD G μ H) (hs : (sh μ b).1 = ci + 1) (hc : vwCl[ci]? = some r) : ∃ cellB : Cell, H[b]? = some cellB ∧ cellB.vm.isStatics = false ∧ s.vm.findClass r.1 = some cellB.cls := by
  obtain ⟨cell, g1, g2, g3, -⟩ := hW.2.2.2.1 b ci r hs hc
  exact ⟨cell, g1, by rw [g3]; rfl, by rw [g2]; exact (C.2.2.2.2.2.2.2.2.1.1.1 ci r hc).2.1⟩
theorem J_callV {b ci : Nat} {r : vw_C} (hs : (sh μ b).1 = ci + 1) (hc : vwCl[ci]? = some r) (hr : r.1 = y'.cls) (hK : K G y' cc' nL' ret' d' mc' ms' (.ref b :: As) μ Φ') (hd : d' < d) (hM : MI y' cc' nL' ret' As.length) (hL : LV y.cls idx y') (hst : st = As.reverse ++ .ref b :: rest) (hrest : (rest.map fun v => v.category).sum ≤ 8) (hk1 : kc' + mc' = kc) (hk2 : ks' + ms' = ks) (hdg : decode cc pc = .ok (.invokevirtual idx, 3))
    (kk : ∀ v μ', Φ' v μ' → J G y cc nL ret d kc' ks' Φ (pc + 3) lv (v.toList ++ rest) μ') : J G y cc nL ret d kc ks Φ pc lv st μ := by
  refine J_run (a := (Value.ref b :: As).toArray) hk1 hk2 ?_ kk
  intro p l e s m args below meth c H locs cells slots mc ms ls C h1 h2 hS hW hl
  have hts := C.2.2.2.2.1
  have hG := TBL_in hM.1
  have hT : GoodIn TBL (wsV y.cls idx y'.cls y' (.code y' cc' nL' ret' :: TBL)) := by
    intro w hw
    unfold wsV at hw
    rcases List.mem_append.mp hw with q | q
    · simp only [List.mem_cons, List.not_mem_nil, or_false] at q
      have hin : w ∈ TBL := by rcases q with rfl | rfl | rfl | rfl <;> first | exact hL.1 | exact hL.2.1 | exact hL.2.2 | exact hM.2.1
      exact ⟨hin, good_of_word (List.all_eq_true.mp TBL_good w hin)⟩
    · exact hG w q
  exact va_runV ⟨C.1, C.2.1, C.2.2.2.1, C.2.2.2.2.2.1, hts⟩ (hK l) (cwV As.length hts hT rfl rfl rfl ⟨rfl, hM.2.2.1⟩ ⟨by show d' + 2 + 1 ≤ d + 2; omega, by have := hM.2.2.2; show 8 + (nL' + 11) + 40 * (d' + 2) ≤ 40 * (d + 2); omega⟩) ⟨K_blind, hr ▸ J_recv C hW hs hc, K_pre C hS hW⟩ rfl rfl hl.1 hst (lv_room hrest) hdg ⟨by show cells + mc' ≤ mc; omega, by show slots + ms' ≤ ms; omega⟩
theorem J_callU {b ci : Nat} {r : vw_C} {x : MethodName} (hs : (sh μ b).1 = ci + 1) (hc : vwCl[ci]? = some r) (hK : K G y' cc' nL' ret' d' mc' ms' (.ref b :: As) μ Φ') (hd : d' < d) (hM : MI y' cc' nL' ret' As.length) (hL : LU y.cls idx x r.1 y') (hst : st = As.reverse ++ .ref b :: rest) (hrest : (rest.map fun v => v.category).sum ≤ 8) (hk1 : kc' + mc' = kc) (hk2 : ks' + ms' = ks) (hdg : decode cc pc = .ok (.invokevirtual idx, 3))
    (kk : ∀ v μ', Φ' v μ' → J G y cc nL ret d kc' ks' Φ (pc + 3) lv (v.toList ++ rest) μ') : J G y cc nL ret d kc ks Φ pc lv st μ := by
  refine J_run (a := (Value.ref b :: As).toArray) hk1 hk2 ?_ kk
  intro p l e s m args below meth c H locs cells slots mc ms ls C h1 h2 hS hW hl
  have hts := C.2.2.2.2.1
  obtain ⟨l1, l2, l3, l4, l5, l6, l7, b0, m0, r0, l8⟩ := hL
  have hR : (rmJ d' mc' ms').frames + 1 ≤ (rmJ d mc ms).frames ∧ 8 + (nL' + 11) + (rmJ d' mc' ms').locals ≤ (rmJ d mc ms).locals := ⟨by show d' + 2 + 1 ≤ d + 2; omega, by have := hM.2.2.2; show 8 + (nL' + 11) + 40 * (d' + 2) ≤ 40 * (d + 2); omega⟩
  have cw : va_CU (rmJ d mc ms) s args y.cls r.1 x.cls idx x y' cc' nL' ret' (.code y' cc' nL' ret' :: TBL) (rmJ d' mc' ms') mc' ms' As.length := by
    refine ⟨⟨rfl, rfl, hR.1, hR.2, pay_in hts (TBL_in hM.1), List.mem_cons_self⟩, hts _ hM.1, hts _ hM.2.1, l5, fun sig h => ?_, hts _ l1, hts _ l2, va_Decl.of (hts _ l7) (hts _ l8), hts _ l3, hts _ l4⟩
    have h2 := hM.2.2.1.2.2
    rw [← l6, h] at h2
    exact (Option.some.inj h2).symm
  exact va_runU ⟨C.1, C.2.1, C.2.2.2.1, C.2.2.2.2.2.1, hts⟩ (hK l) cw ⟨K_blind, J_recv C hW hs hc, K_pre C hS hW⟩ rfl rfl hl.1 hst (lv_room hrest) hdg ⟨by show cells + mc' ≤ mc; omega, by show slots + ms' ≤ ms; omega⟩
theorem J_callSU {b ci : Nat} {r : vw_C} (hs : (sh μ b).1 = ci + 1) (hc : vwCl[ci]? = some r) (hK : K G y' cc' nL' ret' d' mc' ms' (.ref b :: As) μ Φ') (hd : d' < d) (hM : MI y' cc' nL' ret' As.length) (hL : LSU y.cls idx y') (hst : st = As.reverse ++ .ref b :: rest) (hrest : (rest.map fun v => v.category).sum ≤ 8) (hk1 : kc' + mc' = kc) (hk2 : ks' + ms' = ks) (hdg : decode cc pc = .ok (.invokespecial idx, 3))
    (kk : ∀ v μ', Φ' v μ' → J G y cc nL ret d kc' ks' Φ (pc + 3) lv (v.toList ++ rest) μ') : J G y cc nL ret d kc ks Φ pc lv st μ := by
  refine J_run (a := (Value.ref b :: As).toArray) hk1 hk2 ?_ kk
  intro p l e s m args below meth c H locs cells slots mc ms ls C h1 h2 hS hW hl
  have hts := C.2.2.2.2.1
  have hG := TBL_in hM.1
  have hT : GoodIn TBL (va_wsSU y.cls idx y' (.code y' cc' nL' ret' :: TBL)) := by
    intro w hw
    unfold va_wsSU at hw
    rcases List.mem_append.mp hw with q | q
    · simp only [List.mem_cons, List.not_mem_nil, or_false] at q
      have hin : w ∈ TBL := by rcases q with rfl | rfl | rfl | rfl | rfl <;> first | exact hL.1 | exact hL.2.1 | exact hL.2.2.1 | exact hL.2.2.2.1 | exact hM.2.1
      exact ⟨hin, good_of_word (List.all_eq_true.mp TBL_good w hin)⟩
    · exact hG w q
  have hat : ClassAt s r.1 (G.1 ci) := (C.2.2.2.2.2.2.2.2.1.1.1 ci r hc).2
  exact va_runSU hat ⟨C.1, C.2.1, C.2.2.2.1, C.2.2.2.2.2.1, hts⟩ (hK l) (va_cwSU As.length hts hT rfl rfl rfl ⟨hL.2.2.2.2, hM.2.2.1.2.2⟩ ⟨by show d' + 2 + 1 ≤ d + 2; omega, by have := hM.2.2.2; show 8 + (nL' + 11) + 40 * (d' + 2) ≤ 40 * (d + 2); omega⟩) ⟨K_blind, J_recv C hW hs hc, K_pre C hS hW⟩ rfl rfl hl.1 hst (lv_room hrest) hdg ⟨by show cells + mc' ≤ mc; omega, by show slots + ms' ≤ ms; omega⟩
theorem J_callI {b : Nat} (hret : ret' = none) (hK : K G y' cc' nL' ret' d' mc' ms' (.ref b :: As) μ Φ') (hd : d' < d) (hM : MI y' cc' nL' ret' As.length) (hL : LI y.cls idx y') (hst : st = As.reverse ++ .ref b :: rest) (hrest : (rest.map fun v => v.category).sum ≤ 8) (hk1 : kc' + mc' = kc) (hk2 : ks' + ms' = ks) (hdg : decode cc pc = .ok (.invokespecial idx, 3))
    (kk : ∀ v μ', Φ' v μ' → J G y cc nL ret d kc' ks' Φ (pc + 3) lv (v.toList ++ rest) μ') : J G y cc nL ret d kc ks Φ pc lv st μ := by
  subst hret
  refine J_run (a := (Value.ref b :: As).toArray) hk1 hk2 ?_ kk
  intro p l e s m args below meth c H locs cells slots mc ms ls C h1 h2 hS hW hl
  have hts := C.2.2.2.2.1
  exact va_runI ⟨C.1, C.2.1, C.2.2.2.1, C.2.2.2.2.2.1, hts⟩ (hK l) (cwI As.length hts (TBL_in hM.1) rfl rfl rfl (hts _ hM.2.1) (hts _ hL.1) (hts _ hL.2.1) hL.2.2 hM.2.2.1 ⟨by show d' + 2 + 1 ≤ d + 2; omega, by have := hM.2.2.2; show 8 + (nL' + 11) + 40 * (d' + 2) ≤ 40 * (d + 2); omega⟩) ⟨K_blind, K_pre C hS hW⟩ rfl rfl hl.1 hst (lv_room hrest) hdg ⟨by show cells + mc' ≤ mc; omega, by show slots + ms' ≤ ms; omega⟩
theorem J_callIN {b : Nat} (hret : ret' = none) (hK : K G y' cc' nL' ret' d' mc' ms' (.ref b :: As) μ Φ') (hd : d' < d) (hM : MI y' cc' nL' ret' As.length) (hL : LIN y.cls idx y') (hst : st = As.reverse ++ .ref b :: rest) (hrest : (rest.map fun v => v.category).sum ≤ 8) (hk1 : kc' + mc' = kc) (hk2 : ks' + ms' = ks) (hdg : decode cc pc = .ok (.invokespecial idx, 3))
    (kk : ∀ v μ', Φ' v μ' → J G y cc nL ret d kc' ks' Φ (pc + 3) lv (v.toList ++ rest) μ') : J G y cc nL ret d kc ks Φ pc lv st μ := by
  subst hret
  refine J_run (a := (Value.ref b :: As).toArray) hk1 hk2 ?_ kk
  intro p l e s m args below meth c H locs cells slots mc ms ls C h1 h2 hS hW hl
  have hts := C.2.2.2.2.1
  obtain ⟨⟨host, hN⟩, hi, hn⟩ := hL
  exact va_runIN ⟨C.1, C.2.1, C.2.2.2.1, C.2.2.2.2.2.1, hts⟩ (hK l) ⟨va_cnB (host := host) As.length hts (TBL_in hM.1) rfl rfl rfl (C.2.2.2.2.2.2.2.2.1.2.1 _ hN) (hts _ hM.2.1) hM.2.2.1 ⟨by show d' + 2 + 1 ≤ d + 2; omega, by have := hM.2.2.2; show 8 + (nL' + 11) + 40 * (d' + 2) ≤ 40 * (d + 2); omega⟩, hn, hts _ hi⟩ ⟨K_blind, K_pre C hS hW⟩ rfl rfl hl.1 hst (lv_room hrest) hdg ⟨by show cells + mc' ≤ mc; omega, by show slots + ms' ≤ ms; omega⟩
theorem J_objInit {b : Nat} (h1 : Cond.methodLink y.cls idx objectInit ∈ TBL) (h2 : Cond.instanceMethod objectInit ∈ TBL) (h3 : Cond.code objectInit ⟨#[0xb1]⟩ 1 none ∈ TBL) (hrest : (st.map fun v => v.category).sum ≤ 8) (hdg : decode cc pc = .ok (.invokespecial idx, 3)) (kk : J G y cc nL ret d kc ks Φ (pc + 3) lv st μ) : J G y cc nL ret d kc ks Φ pc lv (.ref b :: st) μ := by
  intro p l e s m args below meth c H locs cells slots mc ms ls C g1 g2 hS hW hl
  have hts := C.2.2.2.2.1
  refine W.objInit C.1 C.2.1 C.2.2.2.2.2.1 (hts _ h1) (hts _ h2) (hts _ h3) rfl (by rw [C.2.2.2.1]; exact hl.1) rfl hdg (by show 1 ≤ d + 2; omega) (by show 2 * 0 + _ + 12 ≤ 40 * (d + 2); omega) ?_
  exact kk p l e s m args below meth c H locs cells slots mc ms ls C g1 g2 hS hW hl
theorem J_max {x1 x2 : Int32} (hl1 : Cond.methodLink y.cls idx Lib.Math.max.name ∈ TBL) (hl2 : Cond.static Lib.Math.max.name ∈ TBL) (hl3 : Cond.initialized "java/lang/Math" ∈ TBL) (hl4 : Cond.code Lib.Math.max.name Lib.Math.max.code 2 (some .int) ∈ TBL) (hrest : (st.map fun v => v.category).sum ≤ 8) (hdg : decode cc pc = .ok (.invokestatic idx, 3)) (kk : J G y cc nL ret d kc ks Φ (pc + 3) lv (.int (if x1 < x2 then x2 else x1) :: st) μ) : J G y cc nL ret d kc ks Φ pc lv (.int x2 :: .int x1 :: st) μ := by
  intro p l e s m args below meth c H locs cells slots mc ms ls C g1 g2 hS hW hl
  have hts := C.2.2.2.2.1
  exact va_mmax C.1 C.2.1 (by rw [C.2.2.2.1]; exact hl.1.symm) C.2.2.2.2.2.1 (hts _ hl1) (hts _ hl2) (hts _ hl3) (hts _ hl4) (by show 1 ≤ d + 2; omega) (by show _ + 13 ≤ 40 * (d + 2); omega) (by show cells ≤ mc; omega) (by show slots ≤ ms; omega) hdg (kk p l e s m args below meth c H locs cells slots mc ms ls C g1 g2 hS hW hl)
theorem J_min {x1 x2 : Int32} (hl1 : Cond.methodLink y.cls idx Lib.Math.min.name ∈ TBL) (hl2 : Cond.static Lib.Math.min.name ∈ TBL) (hl3 : Cond.initialized "java/lang/Math" ∈ TBL) (hl4 : Cond.code Lib.Math.min.name Lib.Math.min.code 2 (some .int) ∈ TBL) (hrest : (st.map fun v => v.category).sum ≤ 8) (hdg : decode cc pc = .ok (.invokestatic idx, 3)) (kk : J G y cc nL ret d kc ks Φ (pc + 3) lv (.int (if x2 < x1 then x2 else x1) :: st) μ) : J G y cc nL ret d kc ks Φ pc lv (.int x2 :: .int x1 :: st) μ := by
  intro p l e s m args below meth c H locs cells slots mc ms ls C g1 g2 hS hW hl
  have hts := C.2.2.2.2.1
  exact va_mmin C.1 C.2.1 (by rw [C.2.2.2.1]; exact hl.1.symm) C.2.2.2.2.2.1 (hts _ hl1) (hts _ hl2) (hts _ hl3) (hts _ hl4) (by show 1 ≤ d + 2; omega) (by show _ + 13 ≤ 40 * (d + 2); omega) (by show cells ≤ mc; omega) (by show slots ≤ ms; omega) hdg (kk p l e s m args below meth c H locs cells slots mc ms ls C g1 g2 hS hW hl)
theorem J_abs {x1 : Int32} (hl1 : Cond.methodLink y.cls idx Lib.Math.abs.name ∈ TBL) (hl2 : Cond.static Lib.Math.abs.name ∈ TBL) (hl3 : Cond.initialized "java/lang/Math" ∈ TBL) (hl4 : Cond.code Lib.Math.abs.name Lib.Math.abs.code 1 (some .int) ∈ TBL) (hrest : (st.map fun v => v.category).sum ≤ 8) (hdg : decode cc pc = .ok (.invokestatic idx, 3)) (kk : J G y cc nL ret d kc ks Φ (pc + 3) lv (.int (if 0 ≤ x1 then x1 else 0 - x1) :: st) μ) : J G y cc nL ret d kc ks Φ pc lv (.int x1 :: st) μ := by
  intro p l e s m args below meth c H locs cells slots mc ms ls C g1 g2 hS hW hl
  have hts := C.2.2.2.2.1
  exact va_mabs C.1 C.2.1 (by rw [C.2.2.2.1]; exact hl.1.symm) C.2.2.2.2.2.1 (hts _ hl1) (hts _ hl2) (hts _ hl3) (hts _ hl4) (by show 1 ≤ d + 2; omega) (by show _ + 13 ≤ 40 * (d + 2); omega) (by show cells ≤ mc; omega) (by show slots ≤ ms; omega) hdg (kk p l e s m args below meth c H locs cells slots mc ms ls C g1 g2 hS hW hl)
end JC
