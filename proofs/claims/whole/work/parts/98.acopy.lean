/-! ===== System.arraycopy between arrays of ints ===== -/
def cpM (M : Nat → Nat → Int32) (a0 a sp dp n : Nat) : Nat → Nat → Int32 := fun b k => if b = a ∧ dp ≤ k ∧ k < dp + n then M a0 (sp + (k - dp)) else M b k
def setC (μ : Mem) (a0 a sp dp n : Nat) : Mem := (μ.1, μ.2.1, cpM μ.2.2.1 a0 a sp dp n, μ.2.2.2.1, μ.2.2.2.2)
theorem fv_cp {μ : Mem} {a0 a sp dp n κ b j : Nat} (hb : b ≠ a) : fv κ (setC μ a0 a sp dp n) b j = fv κ μ b j := by
  match κ with
  | 0 =>
    show Value.int (cpM μ.2.2.1 a0 a sp dp n b j) = Value.int (μ.2.2.1 b j)
    unfold cpM
    rw [if_neg (fun z => hb z.1)]
  | 1 => rfl
  | k + 2 => rfl
theorem av_cp {μ : Mem} {a0 a sp dp n t b : Nat} (hb : b ≠ a) : av t (setC μ a0 a sp dp n) b = av t μ b := by
  funext j
  match t with
  | 0 =>
    show Value.int (cpM μ.2.2.1 a0 a sp dp n b j) = Value.int (μ.2.2.1 b j)
    unfold cpM
    rw [if_neg (fun z => hb z.1)]
  | 1 =>
    show Value.int (cpM μ.2.2.1 a0 a sp dp n b j) = Value.int (μ.2.2.1 b j)
    unfold cpM
    rw [if_neg (fun z => hb z.1)]
  | k + 2 => rfl
theorem wld_arrF {G : Gx} {μ μ' : Mem} {a t : Nat} {f : Nat → Value} {H H1 : Heap} (hW : WLD G μ H) (hs : (sh μ a).1 = 20 + t) (h1 : μ'.1 = μ.1) (h2 : sh μ' = sh μ) (h3 : av t μ' a = f) (h4 : ∀ κ b j, b ≠ a → fv κ μ' b j = fv κ μ b j) (h5 : ∀ t b, b ≠ a → av t μ' b = av t μ b)
    (he : H1[a]? = some (arrV (gA G t) (sh μ a).2 f)) (hz : H1.size = H.size) (oq : ∀ q : Nat, q ≠ a → H1[q]? = H[q]?) : WLD G μ' H1 := by
  obtain ⟨w1, w2, w3, w4, w5⟩ := hW
  refine ⟨by rw [hz, h1]; exact w1, by rw [hz]; exact w2, fun b hb => by rw [hz]; rw [h2] at hb; exact w3 b hb, fun b cj r' hb hr' => ?_, fun b t' hb => ?_⟩
  · rw [h2] at hb
    have hba : b ≠ a := fun q => by
      have := cls_lt hr'
      rw [q] at hb; omega
    exact ((w4 b cj r' hb hr').kept (oq b hba)).to (fun j hj => (h4 _ _ _ hba).symm)
  · rw [h2] at hb
    by_cases hba : b = a
    · subst hba
      have e : t' = t := by omega
      subst e
      rw [he, h2, h3]
    · rw [oq b hba, w5 b t' hb, h2, h5 t' b hba]
theorem EQV.cp {sc : Nat → Nat → Prop} {μ' μ : Mem} (h : EQV sc μ' μ) {a0 a sp dp n : Nat} (hsc : ∀ k, ¬ sc a0 k) : EQV sc (setC μ' a0 a sp dp n) (setC μ a0 a sp dp n) := by
  refine ⟨h.1, h.2.1, fun b j hb => ?_, h.2.2.2.1, h.2.2.2.2⟩
  show cpM μ'.2.2.1 a0 a sp dp n b j = cpM μ.2.2.1 a0 a sp dp n b j
  unfold cpM
  split
  · exact h.2.2.1 a0 _ (hsc _)
  · exact h.2.2.1 b j hb
section JCP
variable {G : Gx} {y : MethodName} {cc : ByteArray} {nL : Nat} {ret : Option FieldType} {d kc ks : Nat} {Φ : Option Value → Mem → Prop} {pc : Nat} {lv : List (Nat × Value)} {st : List Value} {μ : Mem}
theorem J_acopy {a a0 n1 n0 idx : Nat} {sp dp nn : Int32} (hs0 : sh μ a0 = (20, n0)) (hs : sh μ a = (20, n1)) (hl1 : Cond.methodLink y.cls idx arraycopyName ∈ TBL) (hl2 : Cond.native arraycopyName ∈ TBL) (hl3 : Cond.static arraycopyName ∈ TBL) (hl4 : Cond.initialized "java/lang/System" ∈ TBL)
    (h1 : ¬ sp < 0) (h2 : ¬ dp < 0) (h3 : ¬ nn < 0) (h4 : sp.toNatClampNeg + nn.toNatClampNeg ≤ n0) (h5 : dp.toNatClampNeg + nn.toNatClampNeg ≤ n1) (hrest : (st.map fun v => v.category).sum ≤ 8) (hdg : decode cc pc = .ok (.invokestatic idx, 3))
    (kk : J G y cc nL ret d kc ks Φ (pc + 3) lv st (setC μ a0 a sp.toNatClampNeg dp.toNatClampNeg nn.toNatClampNeg)) : J G y cc nL ret d kc ks Φ pc lv (.int nn :: .int dp :: .ref a :: .int sp :: .ref a0 :: st) μ := by
  intro p l e s m args below meth c H locs cells slots mc ms ls C g1 g2 hS hW hl
  have hts := C.2.2.2.2.1
  have hK := C.2.2.2.2.2.2.2.2.1.1
  have hc0 := hW.2.2.2.2 a0 0 (by rw [hs0])
  rw [hs0] at hc0
  have hc1 := hW.2.2.2.2 a 0 (by rw [hs])
  rw [hs] at hc1
  have haB : gF G a := (hW.2.2.1 a (by rw [hs]; exact Nat.succ_ne_zero _)).1
  have pn : ∀ z : Int32, ¬ z < 0 → z.toInt = (z.toNatClampNeg : Int) := by
    intro z hz
    have hz0 : (0 : Int) ≤ z.toInt := by
      have := Int32.not_lt.mp hz
      simpa using Int32.le_iff_toInt_le.mp this
    show z.toInt = ((z.toInt.toNat : Nat) : Int)
    omega
  have hfw : nativeFrameWords "java/lang/System" "arraycopy" 5 + 11 ≤ 60 := by decide
  intro T hT X
  obtain ⟨-, k0, hk0, cm0, hkk0⟩ := (hK.2 0 _ (gT_at G 0 (by decide))).1 n0 (av 0 μ a0)
  obtain ⟨-, k1, hk1, cm1, hkk1⟩ := (hK.2 0 _ (gT_at G 0 (by decide))).1 n1 (av 0 μ a)
  obtain ⟨vm', X', step⟩ := X.arraycopy C.1 C.2.2.2.2.2.1 (hts _ hl1) (hts _ hl2) (hts _ hl3) (hts _ hl4) (src := a0) (dst := a) (cs := arrV (gA G 0) n0 (av 0 μ a0)) (cd := arrV (gA G 0) n1 (av 0 μ a)) (srcPos := sp) (destPos := dp) (n := nn) (by rw [hT]; exact hc0) (by rw [hT]; exact hc1)
    (fun _ h => by cases h) (fun _ h => by cases h) (fun h => by cases h) (fun h => by cases h) hk0 hk1 hkk0 hkk1 (by simp [aty, refKind]) h1 h2 h3
    (by rw [pn sp h1, pn nn h3]; show ¬ _ > ((arrV (gA G 0) n0 (av 0 μ a0)).slots.size : Int); rw [arrV_size]; omega)
    (by rw [pn dp h2, pn nn h3]; show ¬ _ > ((arrV (gA G 0) n1 (av 0 μ a)).slots.size : Int); rw [arrV_size]; omega)
    (fun vm₁ _ i hi => by
      have e : (arrV (gA G 0) n0 (av 0 μ a0)).slots.getD (sp.toNatClampNeg + i) .null = .int (rI μ a0 (sp.toNatClampNeg + i)) := by
        rw [Array.getD_eq_getD_getElem?, arrV_read _ _ (by omega)]
        rfl
      refine ⟨?_, ?_⟩
      · rw [e]
        rfl
      · rw [e]
        exact trivial)
    (g := F0 m pc ls (.int nn :: .int dp :: .ref a :: .int sp :: .ref a0 :: st)) rfl (by rw [C.2.2.2.1]; exact hl.1) (rest := st) rfl (by rw [C.2.1]; exact hdg) (by show 1 ≤ d + 2; omega) (by show 2 * 0 + _ + _ ≤ 40 * (d + 2); omega)
  have e1 : copied (arrV (gA G 0) n0 (av 0 μ a0)) (arrV (gA G 0) n1 (av 0 μ a)) sp dp nn = arrV (gA G 0) n1 (av 0 (setC μ a0 a sp.toNatClampNeg dp.toNatClampNeg nn.toNatClampNeg) a) := by
    refine (va_copied (fun z => .int z) (gA G 0) (gA G 0) (fun j => rI μ a0 j) (fun j => rI μ a j) h4).trans ?_
    congr 1
    funext j
    show Value.int _ = Value.int (cpM μ.2.2.1 a0 a _ _ _ a j)
    unfold cpM va_cpy
    by_cases z : dp.toNatClampNeg ≤ j ∧ j < dp.toNatClampNeg + nn.toNatClampNeg
    · rw [if_pos z, if_pos ⟨rfl, z⟩]
    · rw [if_neg z, if_neg (fun q => z q.2)]
  rw [e1] at X' step
  have hlt : a < H.size := (Array.getElem?_eq_some_iff.mp hc1).1
  have hheap : ((T.setVm vm').setCell a (arrV (gA G 0) n1 (av 0 (setC μ a0 a sp.toNatClampNeg dp.toNatClampNeg nn.toNatClampNeg) a))).heap = H.setIfInBounds a (arrV (gA G 0) n1 (av 0 (setC μ a0 a sp.toNatClampNeg dp.toNatClampNeg nn.toNatClampNeg) a)) := by rw [← hT]; rfl
  have oq : ∀ q : Nat, q ≠ a → (H.setIfInBounds a (arrV (gA G 0) n1 (av 0 (setC μ a0 a sp.toNatClampNeg dp.toNatClampNeg nn.toNatClampNeg) a)))[q]? = H[q]? := fun q hq => by simp [Array.getElem?_setIfInBounds, Ne.symm hq]
  have hz : (H.setIfInBounds a (arrV (gA G 0) n1 (av 0 (setC μ a0 a sp.toNatClampNeg dp.toNatClampNeg nn.toNatClampNeg) a))).size = H.size := by simp
  obtain ⟨t, a1, b1⟩ := kk p l e s m args below meth c _ _ cells slots mc ms ls C g1 g2 ⟨by rw [hz]; exact hS.1, fun q w1 w2 => by
      rw [oq q (fun e => w2 (by rw [e]; exact haB))]
      exact hS.2.1 q w1 w2, fun q hq => by
      rcases List.mem_append.mp hq with h | h
      · exact hS.2.2 q h
      · obtain ⟨z, -, hz'⟩ := List.mem_map.mp h
        rw [← hz']
        exact haB⟩ (wld_arrF (t := 0) hW (by rw [hs]) rfl rfl rfl (fun κ b j hb => fv_cp hb) (fun t b hb => av_cp hb) (by rw [hs]; simp [Array.getElem?_setIfInBounds, hlt]) hz oq) hl _ hheap X'
  exact ⟨t, step t a1, b1⟩
variable {sc : Nat → Nat → Prop} {n : Nat} {S : Nat → Nat × Nat} {M : Nat → Nat → Int32} {L : Nat → Nat → Int64} {P : Nat → Nat → Option Nat}
theorem JJ_acopy {a a0 n1 n0 idx : Nat} {sp dp nn : Int32} (hs0 : S a0 = (20, n0)) (hs : S a = (20, n1)) (hl1 : Cond.methodLink y.cls idx arraycopyName ∈ TBL) (hl2 : Cond.native arraycopyName ∈ TBL) (hl3 : Cond.static arraycopyName ∈ TBL) (hl4 : Cond.initialized "java/lang/System" ∈ TBL)
    (h1 : ¬ sp < 0) (h2 : ¬ dp < 0) (h3 : ¬ nn < 0) (h4 : sp.toNatClampNeg + nn.toNatClampNeg ≤ n0) (h5 : dp.toNatClampNeg + nn.toNatClampNeg ≤ n1) (hsc : ∀ k, ¬ sc a0 k) (hrest : (st.map fun v => v.category).sum ≤ 8) (hdg : decode cc pc = .ok (.invokestatic idx, 3))
    (k : ∀ M1, M1 = cpM M a0 a sp.toNatClampNeg dp.toNatClampNeg nn.toNatClampNeg → JJ G sc y cc nL ret d kc ks Φ (pc + 3) lv st (n, S, M1, L, P)) : JJ G sc y cc nL ret d kc ks Φ pc lv (.int nn :: .int dp :: .ref a :: .int sp :: .ref a0 :: st) (n, S, M, L, P) :=
  fun μ' h => J_acopy (by rw [show sh μ' = S from h.2.1]; exact hs0) (by rw [show sh μ' = S from h.2.1]; exact hs) hl1 hl2 hl3 hl4 h1 h2 h3 h4 h5 hrest hdg (k _ rfl _ (h.cp hsc))
end JCP
