/-! ===== rows for objects and arrays ===== -/
theorem cls_in : ∀ (ci : Nat) (r : vw_C), vwCl[ci]? = some r → ∀ w ∈ u_ws r.1 r.2.1 r.2.2, w ∈ TBL := by
  intro ci r h
  have h1 : ∀ q ∈ vwCl, (u_ws q.1 q.2.1 q.2.2).all (fun w => decide (w ∈ lw_tbl) && goodWord w) = true := by decide +kernel
  intro w hw
  have h2 := List.all_eq_true.mp (h1 r (List.mem_of_getElem? h)) w hw
  simp only [Bool.and_eq_true, decide_eq_true_eq] at h2
  exact List.mem_filter.mpr h2
theorem cls_ty : ∀ (ci : Nat) (r : vw_C), vwCl[ci]? = some r → ∃ ty : Nat → FieldType, (∀ k, k < r.2.2 → parseFieldDescriptor (r.2.1 k).2.2.1 = some (ty k)) ∧ (∀ k, k < r.2.2 → defaultValue (ty k) = fv (fkd ci k) (0, fun _ => (0, 0), fun _ _ => 0, fun _ _ => 0, fun _ _ => none) 0 k) := by
  intro ci r h
  match ci, h with
  | 0, h => cases h; exact ⟨tyX0, tyX0_ok, by decide +kernel⟩
  | 1, h => cases h; exact ⟨tyX1, tyX1_ok, by decide +kernel⟩
  | 2, h => cases h; exact ⟨tyX2, tyX2_ok, by decide +kernel⟩
  | 3, h => cases h; exact ⟨tyX3, tyX3_ok, by decide +kernel⟩
  | 4, h => cases h; exact ⟨tyX4, tyX4_ok, by decide +kernel⟩
  | 5, h => cases h; exact ⟨tyX5, tyX5_ok, by decide +kernel⟩
  | 6, h => cases h; exact ⟨tyX6, tyX6_ok, by decide +kernel⟩
  | 7, h => cases h; exact ⟨tyX7, tyX7_ok, by decide +kernel⟩
  | 8, h => cases h; exact ⟨tyX8, tyX8_ok, by decide +kernel⟩
  | 9, h => cases h; exact ⟨tyX9, tyX9_ok, by decide +kernel⟩
  | 10, h => cases h; exact ⟨tyX10, tyX10_ok, by decide +kernel⟩
  | 11, h => cases h; exact ⟨tyX11, tyX11_ok, by decide +kernel⟩
  | 12, h => cases h; exact ⟨tyX12, tyX12_ok, by decide +kernel⟩
  | n + 13, h => simp [vwCl] at h
theorem cls_nm : ∀ (ci : Nat) (r : vw_C), vwCl[ci]? = some r → ∀ a, a < r.2.2 → ∀ b, b < r.2.2 → a ≠ b → (r.2.1 a).2.1 ≠ (r.2.1 b).2.1 := by
  intro ci r h
  match ci, h with
  | 0, h => cases h; exact nmX0
  | 1, h => cases h; exact nmX1
  | 2, h => cases h; exact nmX2
  | 3, h => cases h; exact nmX3
  | 4, h => cases h; exact nmX4
  | 5, h => cases h; exact nmX5
  | 6, h => cases h; exact nmX6
  | 7, h => cases h; exact nmX7
  | 8, h => cases h; exact nmX8
  | 9, h => cases h; exact nmX9
  | 10, h => cases h; exact nmX10
  | 11, h => cases h; exact nmX11
  | 12, h => cases h; exact nmX12
  | n + 13, h => simp [vwCl] at h
theorem cls_lt {ci : Nat} {r : vw_C} (h : vwCl[ci]? = some r) : ci < 13 := (List.getElem?_eq_some_iff.mp h).1
/-- what an access of a field links: the classes whose objects may stand there, the field's place -/
def FA (own : String) (idx : Nat) (cis : List Nat) (k : Nat) : Prop := ∀ ci ∈ cis, ∃ (r : vw_C) (ref : String), vwCl[ci]? = some r ∧ k < r.2.2 ∧ Cond.fieldLink own idx ref (r.2.1 k).2.1 (r.2.1 k).2.2.1 ∈ TBL ∧ (ref = (r.2.1 k).1 ∨ Cond.sameField ref (r.2.1 k).1 (r.2.1 k).2.1 (r.2.1 k).2.2.1 ∈ TBL)
theorem fa_same {args : Array Value} {s : State} {ref o n dd : String} (hts : ∀ w ∈ TBL, w.before args s = true) (h : ref = o ∨ Cond.sameField ref o n dd ∈ TBL) : ∀ x, s.fieldFound? o n dd = some x → s.fieldFound? ref n dd = some x := by
  intro x hx
  rcases h with h | h
  · rw [h]; exact hx
  · exact u_same (hts _ h) x hx
section JM
variable {G : Gx} {y : MethodName} {cc : ByteArray} {nL : Nat} {ret : Option FieldType} {d kc ks : Nat} {Φ : Option Value → Mem → Prop} {pc : Nat} {lv : List (Nat × Value)} {st : List Value} {μ : Mem}
theorem J_getv {a ci k idx : Nat} {cis : List Nat} (hf : FA y.cls idx cis k) (hm : ci ∈ cis) (hs : (sh μ a).1 = ci + 1) (hdg : decode cc pc = .ok (.getfield idx, 3)) (kk : J G y cc nL ret d kc ks Φ (pc + 3) lv (fv (fkd ci k) μ a k :: st) μ) : J G y cc nL ret d kc ks Φ pc lv (.ref a :: st) μ := by
  obtain ⟨r, ref, hc, hk, hlk, hsm⟩ := hf ci hm
  intro p l e s m args below meth c H locs cells slots mc ms ls C h1 h2 hS hW hl
  obtain ⟨cell, q1, q2, q3, q4⟩ := hW.2.2.2.1 a ci r hs hc
  have hts := C.2.2.2.2.1
  have hK := C.2.2.2.2.2.2.2.2.1.1
  obtain ⟨hSl, hfc, kC, hkC, hkind⟩ := hK.1 ci _ hc
  obtain ⟨cf, kf, fi, f, hi, hsl⟩ := hSl k hk
  refine W.getf C.1 C.2.1 C.2.2.2.2.2.1 (hts _ hlk) (fa_same hts hsm _ hi) (u_facts hfc hkC (u_lays hts (cls_in ci r hc) hk) hi).1 q1 (by rw [q3]; exact fun h => by cases h) (v := fv (fkd ci k) μ a k) ?_ rfl rfl hdg (kk p l e s m args below meth c H locs cells slots mc ms ls C h1 h2 hS hW hl)
  rw [hsl]; exact q4 k hk
theorem J_geti {a ci k idx : Nat} {cis : List Nat} (hf : FA y.cls idx cis k) (hm : ci ∈ cis) (hs : (sh μ a).1 = ci + 1) (hκ : fkd ci k = 0) (hdg : decode cc pc = .ok (.getfield idx, 3)) (kk : J G y cc nL ret d kc ks Φ (pc + 3) lv (.int (rI μ a k) :: st) μ) : J G y cc nL ret d kc ks Φ pc lv (.ref a :: st) μ :=
  J_getv hf hm hs hdg (by rw [hκ]; exact kk)
theorem J_getl {a ci k idx : Nat} {cis : List Nat} (hf : FA y.cls idx cis k) (hm : ci ∈ cis) (hs : (sh μ a).1 = ci + 1) (hκ : fkd ci k = 1) (hdg : decode cc pc = .ok (.getfield idx, 3)) (kk : J G y cc nL ret d kc ks Φ (pc + 3) lv (.long (rL μ a k) :: st) μ) : J G y cc nL ret d kc ks Φ pc lv (.ref a :: st) μ :=
  J_getv hf hm hs hdg (by rw [hκ]; exact kk)
theorem J_getr {a ci k idx q : Nat} {cis : List Nat} (hf : FA y.cls idx cis k) (hm : ci ∈ cis) (hs : (sh μ a).1 = ci + 1) (hκ : fkd ci k = 2) (hq : rP μ a k = some q) (hdg : decode cc pc = .ok (.getfield idx, 3)) (kk : J G y cc nL ret d kc ks Φ (pc + 3) lv (.ref q :: st) μ) : J G y cc nL ret d kc ks Φ pc lv (.ref a :: st) μ :=
  J_getv hf hm hs hdg (by rw [hκ]; show J G y cc nL ret d kc ks Φ (pc + 3) lv (va_rf (rP μ a k) :: st) μ; rw [hq]; exact kk)
theorem J_getn {a ci k idx : Nat} {cis : List Nat} (hf : FA y.cls idx cis k) (hm : ci ∈ cis) (hs : (sh μ a).1 = ci + 1) (hκ : fkd ci k = 2) (hq : rP μ a k = none) (hdg : decode cc pc = .ok (.getfield idx, 3)) (kk : J G y cc nL ret d kc ks Φ (pc + 3) lv (.null :: st) μ) : J G y cc nL ret d kc ks Φ pc lv (.ref a :: st) μ :=
  J_getv hf hm hs hdg (by rw [hκ]; show J G y cc nL ret d kc ks Φ (pc + 3) lv (va_rf (rP μ a k) :: st) μ; rw [hq]; exact kk)
/-- one slot written, nothing else -/
def PutOK (μ μ' : Mem) (a k κ : Nat) (v : Value) : Prop := μ'.1 = μ.1 ∧ sh μ' = sh μ ∧ fv κ μ' a k = v ∧ (∀ κ' b j, ¬ (b = a ∧ j = k) → fv κ' μ' b j = fv κ' μ b j) ∧ ∀ t b j, ¬ (b = a ∧ j = k) → av t μ' b j = av t μ b j
theorem put_i {μ : Mem} {a k : Nat} {x : Int32} : PutOK μ (setI μ a k x) a k 0 (.int x) := by
  refine ⟨rfl, rfl, ?_, fun κ' b j h => ?_, fun t b j h => ?_⟩
  · show Value.int (up2 _ a k x a k) = _
    rw [up2_s]
  · have e : up2 μ.2.2.1 a k x b j = μ.2.2.1 b j := up2_n h
    match κ' with
    | 0 => show Value.int (up2 _ a k x b j) = Value.int _; rw [e]
    | 1 => rfl
    | n + 2 => rfl
  · have e : up2 μ.2.2.1 a k x b j = μ.2.2.1 b j := up2_n h
    match t with
    | 0 => show Value.int (up2 _ a k x b j) = Value.int _; rw [e]
    | 1 => show Value.int (up2 _ a k x b j) = Value.int _; rw [e]
    | n + 2 => rfl
theorem put_l {μ : Mem} {a k : Nat} {x : Int64} : PutOK μ (setL μ a k x) a k 1 (.long x) := by
  refine ⟨rfl, rfl, ?_, fun κ' b j h => ?_, fun t b j h => ?_⟩
  · show Value.long (up2 _ a k x a k) = _
    rw [up2_s]
  · have e : up2 μ.2.2.2.1 a k x b j = μ.2.2.2.1 b j := up2_n h
    match κ' with
    | 0 => rfl
    | 1 => show Value.long (up2 _ a k x b j) = Value.long _; rw [e]
    | n + 2 => rfl
  · match t with
    | 0 => rfl
    | 1 => rfl
    | n + 2 => rfl
theorem put_p {μ : Mem} {a k : Nat} {x : Option Nat} : PutOK μ (setP μ a k x) a k 2 (va_rf x) := by
  refine ⟨rfl, rfl, ?_, fun κ' b j h => ?_, fun t b j h => ?_⟩
  · show va_rf (up2 _ a k x a k) = _
    rw [up2_s]
  · have e : up2 μ.2.2.2.2 a k x b j = μ.2.2.2.2 b j := up2_n h
    match κ' with
    | 0 => rfl
    | 1 => rfl
    | n + 2 => show va_rf (up2 _ a k x b j) = va_rf _; rw [e]
  · have e : up2 μ.2.2.2.2 a k x b j = μ.2.2.2.2 b j := up2_n h
    match t with
    | 0 => rfl
    | 1 => rfl
    | n + 2 => show va_rf (up2 _ a k x b j) = va_rf _; rw [e]
theorem wld_put {G : Gx} {μ μ' : Mem} {a ci k : Nat} {v : Value} {H H1 : Heap} {r : vw_C} (hW : WLD G μ H) (hs : (sh μ a).1 = ci + 1) (hc : vwCl[ci]? = some r) (hp : PutOK μ μ' a k (fkd ci k) v)
    (ho : t_OB a (G.1 ci) r.2.2 (G.2.1 ci) H1 (fun j => if j = k then v else fv (fkd ci j) μ a j)) (hz : H1.size = H.size) (oq : ∀ q : Nat, q ≠ a → H1[q]? = H[q]?) : WLD G μ' H1 := by
  obtain ⟨p1, p2, p3, p4, p5⟩ := hp
  obtain ⟨w1, w2, w3, w4, w5⟩ := hW
  refine ⟨by rw [hz, p1]; exact w1, by rw [hz]; exact w2, fun b hb => by rw [hz]; rw [p2] at hb; exact w3 b hb, fun b cj r' hb hr' => ?_, fun b t hb => ?_⟩
  · rw [p2] at hb
    by_cases hba : b = a
    · subst hba
      have e : cj = ci := by omega
      subst e
      have er : r' = r := Option.some.inj (hr'.symm.trans hc)
      subst er
      refine ho.to (fun j hj => ?_)
      by_cases hjk : j = k
      · subst hjk; rw [if_pos rfl]; exact p3.symm
      · rw [if_neg hjk]; exact (p4 _ _ _ (fun q => hjk q.2)).symm
    · refine ((w4 b cj r' hb hr').kept (oq b hba)).to (fun j hj => ?_)
      exact (p4 _ _ _ (fun q => hba q.1)).symm
  · rw [p2] at hb
    have hba : b ≠ a := fun q => by
      have := cls_lt hc
      rw [q] at hb; omega
    rw [oq b hba, w5 b t hb, p2]
    refine congrArg some ?_
    have : av t μ b = av t μ' b := funext fun j => (p5 t b j (fun q => hba q.1)).symm
    rw [this]
theorem J_putv {μ' : Mem} {a ci k idx : Nat} {cis : List Nat} {v : Value} (ty : FieldType) (hf : FA y.cls idx cis k) (hm : ci ∈ cis) (hs : (sh μ a).1 = ci + 1) (hfin : ∀ r : vw_C, vwCl[ci]? = some r → (r.2.1 k).2.2.2 = false ∧ parseFieldDescriptor (r.2.1 k).2.2.1 = some ty) (hn : narrow ty v = v) (hfit : fits ty v = true) (hp : PutOK μ μ' a k (fkd ci k) v)
    (hdg : decode cc pc = .ok (.putfield idx, 3)) (kk : J G y cc nL ret d kc ks Φ (pc + 3) lv st μ') : J G y cc nL ret d kc ks Φ pc lv (v :: .ref a :: st) μ := by
  obtain ⟨r, ref, hc, hk, hlk, hsm⟩ := hf ci hm
  intro p l e s m args below meth c H locs cells slots mc ms ls C h1 h2 hS hW hl
  obtain ⟨cell, q1, q2, q3, q4⟩ := hW.2.2.2.1 a ci r hs hc
  have hts := C.2.2.2.2.1
  have hK := C.2.2.2.2.2.2.2.2.1.1
  obtain ⟨tyf, hty, -⟩ := cls_ty ci r hc
  have hap := va_apart (s := s) (args := args) (D := gD G) (cl := vwCl) (own := y.cls) hts (cls_in ci r hc) tyf hty (cls_nm ci r hc) hK hc
  obtain ⟨hSl, hfc, kC, hkC, hkind⟩ := hK.1 ci _ hc
  obtain ⟨cf, kf, fi, f, hi, hsl⟩ := hSl k hk
  obtain ⟨hfin, hd⟩ := hfin r hc
  have hlay := hts _ (cls_in ci r hc _ (u_in_lay hk))
  unfold u_lay at hlay
  rw [if_neg (by rw [hfin]; decide)] at hlay
  have hst := (u_facts hfc hkC (u_lays hts (cls_in ci r hc) hk) hi).1
  have h6 := u_store hfc hkC hkind hlay hi hd hn hfit
  have haB : gF G a := (hW.2.2.1 a (by rw [hs]; omega)).1
  refine W.putK C.1 C.2.1 (f := f) ⟨C.2.2.2.2.2.1, hts _ hlk, ⟨_, _, _, fa_same hts hsm _ hi⟩, hst⟩ (by rw [q2]; exact h6) q1 q3 (by rw [hsl]; exact k2_hasslot (q4 k hk)) rfl rfl hdg fun H' e1 e2 e3 => ?_
  rw [hsl] at e1 ⊢
  refine kk p l e s m args below meth c H' _ cells slots mc ms ls C h1 h2 (hS.put e2 e3 haB) ?_ hl
  exact wld_put hW hs hc hp ⟨_, e1, q2, q3, t_set q4 hap hk v⟩ e2 e3
/-- a final field, in its own constructor -/
theorem J_putF {μ' : Mem} {a ci k idx : Nat} {cis : List Nat} {v : Value} (ty : FieldType) (hf : FA y.cls idx cis k) (hm : ci ∈ cis) (hs : (sh μ a).1 = ci + 1) (hfin : ∀ r : vw_C, vwCl[ci]? = some r → ((r.2.1 k).2.2.2 = true ∧ (r.2.1 k).1 = y.cls) ∧ parseFieldDescriptor (r.2.1 k).2.2.1 = some ty) (hini : y.name = "<init>") (hn : narrow ty v = v) (hfit : fits ty v = true) (hp : PutOK μ μ' a k (fkd ci k) v)
    (hdg : decode cc pc = .ok (.putfield idx, 3)) (kk : J G y cc nL ret d kc ks Φ (pc + 3) lv st μ') : J G y cc nL ret d kc ks Φ pc lv (v :: .ref a :: st) μ := by
  obtain ⟨r, ref, hc, hk, hlk, hsm⟩ := hf ci hm
  intro p l e s m args below meth c H locs cells slots mc ms ls C h1 h2 hS hW hl
  obtain ⟨cell, q1, q2, q3, q4⟩ := hW.2.2.2.1 a ci r hs hc
  have hts := C.2.2.2.2.1
  have hK := C.2.2.2.2.2.2.2.2.1.1
  obtain ⟨tyf, hty, -⟩ := cls_ty ci r hc
  have hap := va_apart (s := s) (args := args) (D := gD G) (cl := vwCl) (own := y.cls) hts (cls_in ci r hc) tyf hty (cls_nm ci r hc) hK hc
  obtain ⟨hSl, hfc, kC, hkC, hkind⟩ := hK.1 ci _ hc
  obtain ⟨cf, kf, fi, f, hi, hsl⟩ := hSl k hk
  obtain ⟨⟨hfin, hdecl⟩, hd⟩ := hfin r hc
  have hlay := hts _ (cls_in ci r hc _ (u_in_lay hk))
  unfold u_lay at hlay
  rw [if_pos hfin] at hlay
  have hst := (u_facts hfc hkC (u_lays hts (cls_in ci r hc) hk) hi).1
  have hcf : m.cls = cf := by
    obtain ⟨_, _, c', _, _, _, -, -, hf', -, -, -, hown2, -⟩ := Cond.laysFinal_spec hlay
    have e1 : c' = cf := by have := hi.symm.trans hf'; simp at this; exact this.1.symm
    rw [hdecl] at hown2
    rw [← e1]; exact Option.some.inj (C.2.2.2.2.2.1.symm.trans hown2)
  have h6 := u_fits hfc hkC hkind (Or.inr hlay) hi hd hn hfit
  have haB : gF G a := (hW.2.2.1 a (by rw [hs]; omega)).1
  refine W.putFinK C.1 C.2.1 C.2.2.2.2.2.1 (hts _ hlk) (fa_same hts hsm _ hi) hst hcf (C.2.2.2.2.2.2.2.1.trans hini) (by rw [q2]; exact h6) q1 q3 (by rw [hsl]; exact k2_hasslot (q4 k hk)) rfl rfl hdg fun H' e1 e2 e3 => ?_
  rw [hsl] at e1 ⊢
  refine kk p l e s m args below meth c H' _ cells slots mc ms ls C h1 h2 (hS.put e2 e3 haB) ?_ hl
  exact wld_put hW hs hc hp ⟨_, e1, q2, q3, t_set q4 hap hk v⟩ e2 e3
/-! arrays -/
theorem J_iald {a n : Nat} {i : Int32} (hs : sh μ a = (20, n)) (hin : vp_in i n) (hdg : decode cc pc = .ok (.iaload, 1)) (kk : J G y cc nL ret d kc ks Φ (pc + 1) lv (.int (rI μ a i.toNatClampNeg) :: st) μ) : J G y cc nL ret d kc ks Φ pc lv (.int i :: .ref a :: st) μ := by
  intro p l e s m args below meth c H locs cells slots mc ms ls C h1 h2 hS hW hl
  have hc := hW.2.2.2.2 a 0 (by rw [hs])
  rw [hs] at hc
  have hlt : i.toNatClampNeg < n := Nat.not_le.mp fun q => hin (Or.inr q)
  have hK := C.2.2.2.2.2.2.2.2.1.1
  exact W.iald (v := .int (rI μ a i.toNatClampNeg)) C.1 C.2.1 hc ((hK.2 0 _ (gT_at G 0 (by decide))).1 n _) (fun q => by cases q) (by show ¬ (i < 0 ∨ (arrV _ _ _).slots.size ≤ _); rw [arrV_size]; exact hin) (by show (arrV _ _ _).slots[_]? = _; rw [arrV_read _ _ hlt]; rfl) rfl rfl hdg (kk p l e s m args below meth c H locs cells slots mc ms ls C h1 h2 hS hW hl)
theorem J_zald {a n : Nat} {i : Int32} (hs : sh μ a = (21, n)) (hin : vp_in i n) (hdg : decode cc pc = .ok (.baload, 1)) (kk : J G y cc nL ret d kc ks Φ (pc + 1) lv (.int (rI μ a i.toNatClampNeg) :: st) μ) : J G y cc nL ret d kc ks Φ pc lv (.int i :: .ref a :: st) μ := by
  intro p l e s m args below meth c H locs cells slots mc ms ls C h1 h2 hS hW hl
  have hc := hW.2.2.2.2 a 1 (by rw [hs])
  rw [hs] at hc
  have hlt : i.toNatClampNeg < n := Nat.not_le.mp fun q => hin (Or.inr q)
  have hK := C.2.2.2.2.2.2.2.2.1.1
  exact W.zald (v := .int (rI μ a i.toNatClampNeg)) C.1 C.2.1 hc ((hK.2 1 _ (gT_at G 1 (by decide))).1 n _) (fun q => by cases q) (by show ¬ (i < 0 ∨ (arrV _ _ _).slots.size ≤ _); rw [arrV_size]; exact hin) (by show (arrV _ _ _).slots[_]? = _; rw [arrV_read _ _ hlt]; rfl) rfl rfl hdg (kk p l e s m args below meth c H locs cells slots mc ms ls C h1 h2 hS hW hl)
theorem J_aaldv {a n t : Nat} {i : Int32} (hs : sh μ a = (22 + t, n)) (ht : t < 4) (hin : vp_in i n) (hdg : decode cc pc = .ok (.aaload, 1)) (kk : J G y cc nL ret d kc ks Φ (pc + 1) lv (va_rf (rP μ a i.toNatClampNeg) :: st) μ) : J G y cc nL ret d kc ks Φ pc lv (.int i :: .ref a :: st) μ := by
  intro p l e s m args below meth c H locs cells slots mc ms ls C h1 h2 hS hW hl
  have hc := hW.2.2.2.2 a (t + 2) (by rw [hs]; omega)
  rw [hs] at hc
  have hlt : i.toNatClampNeg < n := Nat.not_le.mp fun q => hin (Or.inr q)
  have hK := C.2.2.2.2.2.2.2.2.1.1
  exact W.aald (v := va_rf (rP μ a i.toNatClampNeg)) (ty := aty (t + 2)) C.1 C.2.1 hc ((hK.2 (t + 2) _ (gT_at G (t + 2) (by omega))).1 n _) (by match t, ht with | 0, _ => rfl | 1, _ => rfl | 2, _ => rfl | 3, _ => rfl) (fun q => by cases q) (by show ¬ (i < 0 ∨ (arrV _ _ _).slots.size ≤ _); rw [arrV_size]; exact hin) (by show (arrV _ _ _).slots[_]? = _; rw [arrV_read _ _ hlt]; rfl) rfl rfl hdg (kk p l e s m args below meth c H locs cells slots mc ms ls C h1 h2 hS hW hl)
theorem J_aald {a n t q : Nat} {i : Int32} (hs : sh μ a = (22 + t, n)) (ht : t < 4) (hin : vp_in i n) (hq : rP μ a i.toNatClampNeg = some q) (hdg : decode cc pc = .ok (.aaload, 1)) (kk : J G y cc nL ret d kc ks Φ (pc + 1) lv (.ref q :: st) μ) : J G y cc nL ret d kc ks Φ pc lv (.int i :: .ref a :: st) μ :=
  J_aaldv hs ht hin hdg (by rw [hq]; exact kk)
theorem J_aaldN {a n t : Nat} {i : Int32} (hs : sh μ a = (22 + t, n)) (ht : t < 4) (hin : vp_in i n) (hq : rP μ a i.toNatClampNeg = none) (hdg : decode cc pc = .ok (.aaload, 1)) (kk : J G y cc nL ret d kc ks Φ (pc + 1) lv (.null :: st) μ) : J G y cc nL ret d kc ks Φ pc lv (.int i :: .ref a :: st) μ :=
  J_aaldv hs ht hin hdg (by rw [hq]; exact kk)
theorem J_alen {a n t : Nat} (hs : sh μ a = (20 + t, n)) (ht : t < 6) (hdg : decode cc pc = .ok (.arraylength, 1)) (kk : J G y cc nL ret d kc ks Φ (pc + 1) lv (.int (nI n) :: st) μ) : J G y cc nL ret d kc ks Φ pc lv (.ref a :: st) μ := by
  intro p l e s m args below meth c H locs cells slots mc ms ls C h1 h2 hS hW hl
  have hc := hW.2.2.2.2 a t (by rw [hs])
  rw [hs] at hc
  have hK := C.2.2.2.2.2.2.2.2.1.1
  exact W.alen (n := nI n) C.1 C.2.1 hc ((hK.2 t _ (gT_at G t ht)).1 n _) (by rw [arrV_size]; rfl) rfl rfl hdg (kk p l e s m args below meth c H locs cells slots mc ms ls C h1 h2 hS hW hl)
theorem wld_arr {G : Gx} {μ μ' : Mem} {a t k : Nat} {v : Value} {H H1 : Heap} (hW : WLD G μ H) (hs : (sh μ a).1 = 20 + t) (h1 : μ'.1 = μ.1) (h2 : sh μ' = sh μ) (h3 : av t μ' a = updV (av t μ a) k v) (h4 : ∀ κ b j, b ≠ a → fv κ μ' b j = fv κ μ b j) (h5 : ∀ t b, b ≠ a → av t μ' b = av t μ b)
    (he : H1[a]? = some (arrV (gA G t) (sh μ a).2 (updV (av t μ a) k v))) (hz : H1.size = H.size) (oq : ∀ q : Nat, q ≠ a → H1[q]? = H[q]?) : WLD G μ' H1 := by
  obtain ⟨w1, w2, w3, w4, w5⟩ := hW
  refine ⟨by rw [hz, h1]; exact w1, by rw [hz]; exact w2, fun b hb => by rw [hz]; rw [h2] at hb; exact w3 b hb, fun b cj r' hb hr' => ?_, fun b t' hb => ?_⟩
  · rw [h2] at hb
    have hba : b ≠ a := fun q => by
      have := cls_lt hr'
      rw [q] at hb; omega
    exact ((w4 b cj r' hb hr').kept (oq b hba)).to (fun j hj => (h4 _ _ _ hba).symm)
  · rw [h2] at hb
    by_cases hba : b = a
    · subst hba
      have e : t' = t := by omega
      subst e
      rw [he, h2, h3]
    · rw [oq b hba, w5 b t' hb, h2, h5 t' b hba]
theorem av_set {μ : Mem} {a k : Nat} {x : Int32} : av 0 (setI μ a k x) a = updV (av 0 μ a) k (.int x) := by
  funext j
  show Value.int (up2 _ a k x a j) = updV (fun j => Value.int _) k (.int x) j
  unfold updV up2
  by_cases h : j = k
  · rw [if_pos ⟨rfl, h⟩, if_pos h]
  · rw [if_neg (fun q => h q.2), if_neg h]
theorem av_setz {μ : Mem} {a k : Nat} {x : Int32} : av 1 (setI μ a k x) a = updV (av 1 μ a) k (.int x) := av_set
theorem av_setp {μ : Mem} {a k t : Nat} {x : Option Nat} : av (t + 2) (setP μ a k x) a = updV (av (t + 2) μ a) k (va_rf x) := by
  funext j
  show va_rf (up2 _ a k x a j) = updV (fun j => va_rf _) k (va_rf x) j
  unfold updV up2
  by_cases h : j = k
  · rw [if_pos ⟨rfl, h⟩, if_pos h]
  · rw [if_neg (fun q => h q.2), if_neg h]
theorem J_iast {a n : Nat} {i x : Int32} (hs : sh μ a = (20, n)) (hin : vp_in i n) (hdg : decode cc pc = .ok (.iastore, 1)) (kk : J G y cc nL ret d kc ks Φ (pc + 1) lv st (setI μ a i.toNatClampNeg x)) : J G y cc nL ret d kc ks Φ pc lv (.int x :: .int i :: .ref a :: st) μ := by
  intro p l e s m args below meth c H locs cells slots mc ms ls C h1 h2 hS hW hl
  have hc := hW.2.2.2.2 a 0 (by rw [hs])
  have hc' := hc
  rw [hs] at hc'
  have hK := C.2.2.2.2.2.2.2.2.1.1
  have haB : gF G a := (hW.2.2.1 a (by rw [hs]; exact Nat.succ_ne_zero _)).1
  refine W.iast C.1 C.2.1 hc' ((hK.2 0 _ (gT_at G 0 (by decide))).1 n _) (fun q => by cases q) (by show ¬ (i < 0 ∨ (arrV _ _ _).slots.size ≤ _); rw [arrV_size]; exact hin) rfl rfl hdg fun H1 e0 z oq => ?_
  refine kk p l e s m args below meth c H1 _ cells slots mc ms ls C h1 h2 (hS.put z oq haB) (wld_arr (t := 0) hW (by rw [hs]) rfl rfl av_set (fun κ b j hb => put_i.2.2.2.1 κ b j (fun q => hb q.1)) (fun t b hb => funext fun j => put_i.2.2.2.2 t b j (fun q => hb q.1)) ?_ z oq) hl
  rw [e0, arrV_store, hs]
theorem J_zast {a n : Nat} {i x : Int32} (hs : sh μ a = (21, n)) (hin : vp_in i n) (hx : x = 0 ∨ x = 1) (hdg : decode cc pc = .ok (.bastore, 1)) (kk : J G y cc nL ret d kc ks Φ (pc + 1) lv st (setI μ a i.toNatClampNeg x)) : J G y cc nL ret d kc ks Φ pc lv (.int x :: .int i :: .ref a :: st) μ := by
  intro p l e s m args below meth c H locs cells slots mc ms ls C h1 h2 hS hW hl
  have hc := hW.2.2.2.2 a 1 (by rw [hs])
  have hc' := hc
  rw [hs] at hc'
  have hK := C.2.2.2.2.2.2.2.2.1.1
  have haB : gF G a := (hW.2.2.1 a (by rw [hs]; exact Nat.succ_ne_zero _)).1
  refine W.zast C.1 C.2.1 hc' ((hK.2 1 _ (gT_at G 1 (by decide))).1 n _) (fun q => by cases q) (by show ¬ (i < 0 ∨ (arrV _ _ _).slots.size ≤ _); rw [arrV_size]; exact hin) rfl rfl hdg fun H1 e0 z oq => ?_
  refine kk p l e s m args below meth c H1 _ cells slots mc ms ls C h1 h2 (hS.put z oq haB) (wld_arr (t := 1) hW (by rw [hs]) rfl rfl av_setz (fun κ b j hb => put_i.2.2.2.1 κ b j (fun q => hb q.1)) (fun t b hb => funext fun j => put_i.2.2.2.2 t b j (fun q => hb q.1)) ?_ z oq) hl
  rw [e0, arrV_store, hs, show narrow .boolean (.int x) = .int x by rcases hx with rfl | rfl <;> rfl]
theorem J_aastN {a n t : Nat} {i : Int32} (hs : sh μ a = (22 + t, n)) (ht : t < 4) (hin : vp_in i n) (hdg : decode cc pc = .ok (.aastore, 1)) (kk : J G y cc nL ret d kc ks Φ (pc + 1) lv st (setP μ a i.toNatClampNeg none)) : J G y cc nL ret d kc ks Φ pc lv (.null :: .int i :: .ref a :: st) μ := by
  intro p l e s m args below meth c H locs cells slots mc ms ls C h1 h2 hS hW hl
  have hc := hW.2.2.2.2 a (t + 2) (by rw [hs]; omega)
  have hc' := hc
  rw [hs] at hc'
  have hK := C.2.2.2.2.2.2.2.2.1.1
  have haB : gF G a := (hW.2.2.1 a (by rw [hs]; show 22 + t ≠ 0; omega)).1
  have hty : ∃ nm, aty (t + 2) = .object nm := by match t, ht with | 0, _ => exact ⟨_, rfl⟩ | 1, _ => exact ⟨_, rfl⟩ | 2, _ => exact ⟨_, rfl⟩ | 3, _ => exact ⟨_, rfl⟩
  obtain ⟨nm, hty⟩ := hty
  have hAr := (hK.2 (t + 2) _ (gT_at G (t + 2) (by omega))).1
  rw [hty] at hAr
  refine va_WaastN (C := nm) C.1 C.2.1 hc' (hAr n _) (fun h => by cases h) (by show ¬ (i < 0 ∨ (arrV _ _ _).slots.size ≤ _); rw [arrV_size]; exact hin) rfl rfl hdg fun H1 e0 z oq => ?_
  refine kk p l e s m args below meth c H1 _ cells slots mc ms ls C h1 h2 (hS.put z oq haB) (wld_arr (t := t + 2) hW (by rw [hs]; show 22 + t = 20 + (t + 2); omega) rfl rfl av_setp (fun κ b j hb => put_p.2.2.2.1 κ b j (fun q => hb q.1)) (fun t b hb => funext fun j => put_p.2.2.2.2 t b j (fun q => hb q.1)) ?_ z oq) hl
  rw [e0, arrV_store, hs]
  rfl
/-- which classes may stand in which arrays of references -/
def ASG (s : State) (C E : String) : Prop := ∀ c0 e0, s.vm.findClass C = some c0 → s.vm.findClass E = some e0 → s.vm.assignable c0 e0 = true
theorem asg_cast {s : State} {C E : String} (h : va_Nw (.castable C E) s) : ASG s C E := by
  intro c0 e0 h1 h2
  obtain ⟨c1, t1, f1, f2, f3⟩ := Cond.castable_spec (va_Nw.use (A := #[]) rfl h)
  cases h1.symm.trans f1
  cases h2.symm.trans f2
  exact f3
theorem asg_self {s : State} {C : String} {cC : ClassId} (h : ClassAt s C cC) : ASG s C C := by
  intro c0 e0 h1 h2
  cases h1.symm.trans h.1
  cases h2.symm.trans h.1
  exact va_assign h
theorem J_aast {a n t v ci : Nat} {r : vw_C} {i : Int32} (hs : sh μ a = (22 + t, n)) (ht : t < 4) (hin : vp_in i n) (hv : (sh μ v).1 = ci + 1) (hr : vwCl[ci]? = some r) (hasg : aty (t + 2) = .object r.1 ∨ ∃ E, aty (t + 2) = .object E ∧ (r.1, E) ∈ CW) (hdg : decode cc pc = .ok (.aastore, 1)) (kk : J G y cc nL ret d kc ks Φ (pc + 1) lv st (setP μ a i.toNatClampNeg (some v))) : J G y cc nL ret d kc ks Φ pc lv (.ref v :: .int i :: .ref a :: st) μ := by
  intro p l e s m args below meth c H locs cells slots mc ms ls C h1 h2 hS hW hl
  have hc := hW.2.2.2.2 a (t + 2) (by rw [hs]; omega)
  have hc' := hc
  rw [hs] at hc'
  have hKS := C.2.2.2.2.2.2.2.2.1
  have hK := hKS.1
  have haB : gF G a := (hW.2.2.1 a (by rw [hs]; show 22 + t ≠ 0; omega)).1
  obtain ⟨cellV, g1, g2, g3, -⟩ := hW.2.2.2.1 v ci r hv hr
  have hcls := (hK.1 ci r hr).2
  have hlt : i.toNatClampNeg < n := Nat.not_le.mp fun q => hin (Or.inr q)
  have h0 : ¬ i < 0 := fun q => hin (Or.inl q)
  have hE : ∃ E, aty (t + 2) = .object E ∧ ASG s r.1 E := by
    rcases hasg with q | ⟨E, q1, q2⟩
    · exact ⟨_, q, asg_self hcls⟩
    · exact ⟨E, q1, asg_cast (hKS.2.2.1 _ q2)⟩
  obtain ⟨E, hE1, hE2⟩ := hE
  have hRA := (hK.2 (t + 2) _ (gT_at G (t + 2) (by omega))).2
  rw [hE1] at hRA
  obtain ⟨kA, comp, k1, k2, k3, -⟩ := hRA
  obtain ⟨kE, hkE, -⟩ := Vm.findClass_spec k3
  obtain ⟨kC, hkC, -⟩ := hcls.2
  refine W.aast C.1 C.2.1 hc' (fun q h => by cases h) (fun h => by cases h) k1 k2 rfl hkE ⟨h0, by show _ < (arrV _ _ _).slots.size; rw [arrV_size]; exact hlt⟩ g1 (fun q h => by rw [g3] at h; cases h) (by rw [g2]; exact hkC) (by rw [g2]; exact hE2 _ _ hcls.1 k3) rfl rfl hdg fun H1 e0 z oq => ?_
  refine kk p l e s m args below meth c H1 _ cells slots mc ms ls C h1 h2 (hS.put z oq haB) (wld_arr (t := t + 2) hW (by rw [hs]; show 22 + t = 20 + (t + 2); omega) rfl rfl av_setp (fun κ b j hb => put_p.2.2.2.1 κ b j (fun q => hb q.1)) (fun t b hb => funext fun j => put_p.2.2.2.2 t b j (fun q => hb q.1)) ?_ z oq) hl
  rw [e0, arrV_store, hs]
  rfl
end JM
