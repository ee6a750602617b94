/-! ===== small rows for the printed walks ===== -/
section JX
variable {G : Gx} {sc : Nat → Nat → Prop} {y : MethodName} {cc : ByteArray} {nL : Nat} {ret : Option FieldType} {d kc ks mc ms : Nat} {Φ : Option Value → Mem → Prop} {pc : Nat} {lv lv' : List (Nat × Value)} {st : List Value} {μ : Mem}
theorem KK_of2 {As : List Value} (lv : List (Nat × Value)) (hy : plainName y.cls = true) (hn : (lg_sl As).length ≤ nL) (hlv : lv_args 0 As = lv)
    (h : JJ G sc y cc nL ret d mc ms Φ 0 lv [] μ) : KK G sc y cc nL ret d mc ms As μ Φ := KK_of hy hn (by rw [hlv]; exact h)
theorem JJ.pick (is : List Nat) (hl : lv_pick lv is = lv') (k : JJ G sc y cc nL ret d kc ks Φ pc lv' st μ) : JJ G sc y cc nL ret d kc ks Φ pc lv st μ :=
  JJ.sub (fun q hq => by
    rw [← hl] at hq
    obtain ⟨i, -, hi⟩ := List.mem_filterMap.mp hq
    exact List.mem_of_getElem? hi) k
theorem JJ_r1 {v : Value} (k : JJ G sc y cc nL ret d kc ks Φ pc lv (v :: st) μ) : JJ G sc y cc nL ret d kc ks Φ pc lv ((some v).toList ++ st) μ := k
theorem JJ_r0 (k : JJ G sc y cc nL ret d kc ks Φ pc lv st μ) : JJ G sc y cc nL ret d kc ks Φ pc lv ((none : Option Value).toList ++ st) μ := k
theorem JJ_at {pc' : Nat} (h : pc' = pc) (k : JJ G sc y cc nL ret d kc ks Φ pc' lv st μ) : JJ G sc y cc nL ret d kc ks Φ pc lv st μ := h ▸ k
theorem JJ_if1 {c : Prop} [Decidable c] {a b : Int32} (h : c) (k : JJ G sc y cc nL ret d kc ks Φ pc lv (.int (if c then a else b) :: st) μ) : JJ G sc y cc nL ret d kc ks Φ pc lv (.int a :: st) μ := by rw [if_pos h] at k; exact k
theorem JJ_if0 {c : Prop} [Decidable c] {a b : Int32} (h : ¬ c) (k : JJ G sc y cc nL ret d kc ks Φ pc lv (.int (if c then a else b) :: st) μ) : JJ G sc y cc nL ret d kc ks Φ pc lv (.int b :: st) μ := by rw [if_neg h] at k; exact k
/-- an int answer and the same memory -/
abbrev ansI (r : Int32) (μ0 : Mem) : Option Value → Mem → Prop := fun v μ => v = some (.int r) ∧ μ = μ0
abbrev ansL (r : Int64) (μ0 : Mem) : Option Value → Mem → Prop := fun v μ => v = some (.long r) ∧ μ = μ0
abbrev ansV (μ0 : Mem) : Option Value → Mem → Prop := fun v μ => v = none ∧ μ = μ0
abbrev ansR (r : Nat) (μ0 : Mem) : Option Value → Mem → Prop := fun v μ => v = some (.ref r) ∧ μ = μ0
abbrev ansN (μ0 : Mem) : Option Value → Mem → Prop := fun v μ => v = some .null ∧ μ = μ0
end JX
/-- an index: within, and its number -/
def IX (i : Int32) (j m : Nat) : Prop := ¬ i < 0 ∧ i.toNatClampNeg = j ∧ j < m
theorem IX.vp {i : Int32} {j m : Nat} (h : IX i j m) : vp_in i m := by
  obtain ⟨h1, h2, h3⟩ := h
  intro q
  rcases q with q | q
  · exact h1 q
  · omega
theorem IX_nI {j m : Nat} (h : j < m) (hm : m ≤ 1000000) : IX (nI j) j m := ⟨nI_pos (by omega), nI_clamp (by omega), h⟩
theorem IX_of {i : Int32} {j m : Nat} (e : i = nI j) (h : j < m) (hm : m ≤ 1000000) : IX i j m := e ▸ IX_nI h hm
section JIX
variable {G : Gx} {sc : Nat → Nat → Prop} {y : MethodName} {cc : ByteArray} {nL : Nat} {ret : Option FieldType} {d kc ks : Nat} {Φ : Option Value → Mem → Prop} {pc : Nat} {lv : List (Nat × Value)} {st : List Value}
variable {n : Nat} {S : Nat → Nat × Nat} {M : Nat → Nat → Int32} {L : Nat → Nat → Int64} {P : Nat → Nat → Option Nat}
theorem JJ_ialdX {a m j : Nat} {i v : Int32} (hs : S a = (20, m)) (hin : IX i j m) (hsc : ¬ sc a j) (hv : M a j = v) (hdg : decode cc pc = .ok (.iaload, 1)) (k : JJ G sc y cc nL ret d kc ks Φ (pc + 1) lv (.int v :: st) (n, S, M, L, P)) : JJ G sc y cc nL ret d kc ks Φ pc lv (.int i :: .ref a :: st) (n, S, M, L, P) :=
  JJ_iald hs hin.vp (by rw [hin.2.1]; exact hsc) (by rw [hin.2.1]; exact hv) hdg k
theorem JJ_zaldX {a m j : Nat} {i v : Int32} (hs : S a = (21, m)) (hin : IX i j m) (hsc : ¬ sc a j) (hv : M a j = v) (hdg : decode cc pc = .ok (.baload, 1)) (k : JJ G sc y cc nL ret d kc ks Φ (pc + 1) lv (.int v :: st) (n, S, M, L, P)) : JJ G sc y cc nL ret d kc ks Φ pc lv (.int i :: .ref a :: st) (n, S, M, L, P) :=
  JJ_zald hs hin.vp (by rw [hin.2.1]; exact hsc) (by rw [hin.2.1]; exact hv) hdg k
theorem JJ_iastX {a m j : Nat} {i x : Int32} (hs : S a = (20, m)) (hin : IX i j m) (hdg : decode cc pc = .ok (.iastore, 1)) (k : ∀ M1, M1 = up2 M a j x → JJ G sc y cc nL ret d kc ks Φ (pc + 1) lv st (n, S, M1, L, P)) : JJ G sc y cc nL ret d kc ks Φ pc lv (.int x :: .int i :: .ref a :: st) (n, S, M, L, P) :=
  JJ_iast hs hin.vp hdg (fun M1 h => k M1 (by rw [h, hin.2.1]))
theorem JJ_zastX {a m j : Nat} {i x : Int32} (hs : S a = (21, m)) (hin : IX i j m) (hx : x = 0 ∨ x = 1) (hdg : decode cc pc = .ok (.bastore, 1)) (k : ∀ M1, M1 = up2 M a j x → JJ G sc y cc nL ret d kc ks Φ (pc + 1) lv st (n, S, M1, L, P)) : JJ G sc y cc nL ret d kc ks Φ pc lv (.int x :: .int i :: .ref a :: st) (n, S, M, L, P) :=
  JJ_zast hs hin.vp hx hdg (fun M1 h => k M1 (by rw [h, hin.2.1]))
theorem JJ_aaldX {a m t q j : Nat} {i : Int32} (hs : S a = (22 + t, m)) (ht : t < 4) (hin : IX i j m) (hq : P a j = some q) (hdg : decode cc pc = .ok (.aaload, 1)) (k : JJ G sc y cc nL ret d kc ks Φ (pc + 1) lv (.ref q :: st) (n, S, M, L, P)) : JJ G sc y cc nL ret d kc ks Φ pc lv (.int i :: .ref a :: st) (n, S, M, L, P) :=
  JJ_aald hs ht hin.vp (by rw [hin.2.1]; exact hq) hdg k
theorem JJ_aaldNX {a m t j : Nat} {i : Int32} (hs : S a = (22 + t, m)) (ht : t < 4) (hin : IX i j m) (hq : P a j = none) (hdg : decode cc pc = .ok (.aaload, 1)) (k : JJ G sc y cc nL ret d kc ks Φ (pc + 1) lv (.null :: st) (n, S, M, L, P)) : JJ G sc y cc nL ret d kc ks Φ pc lv (.int i :: .ref a :: st) (n, S, M, L, P) :=
  JJ_aaldN hs ht hin.vp (by rw [hin.2.1]; exact hq) hdg k
theorem JJ_aastNX {a m t j : Nat} {i : Int32} (hs : S a = (22 + t, m)) (ht : t < 4) (hin : IX i j m) (hdg : decode cc pc = .ok (.aastore, 1)) (k : ∀ P1, P1 = up2 P a j none → JJ G sc y cc nL ret d kc ks Φ (pc + 1) lv st (n, S, M, L, P1)) : JJ G sc y cc nL ret d kc ks Φ pc lv (.null :: .int i :: .ref a :: st) (n, S, M, L, P) :=
  JJ_aastN hs ht hin.vp hdg (fun P1 h => k P1 (by rw [h, hin.2.1]))
theorem JJ_aastX {a m t v ci j : Nat} {r : vw_C} {i : Int32} (hs : S a = (22 + t, m)) (ht : t < 4) (hin : IX i j m) (hv : (S v).1 = ci + 1) (hr : vwCl[ci]? = some r) (hasg : aty (t + 2) = .object r.1 ∨ ∃ E, aty (t + 2) = .object E ∧ (r.1, E) ∈ CW) (hdg : decode cc pc = .ok (.aastore, 1)) (k : ∀ P1, P1 = up2 P a j (some v) → JJ G sc y cc nL ret d kc ks Φ (pc + 1) lv st (n, S, M, L, P1)) : JJ G sc y cc nL ret d kc ks Φ pc lv (.ref v :: .int i :: .ref a :: st) (n, S, M, L, P) :=
  JJ_aast hs ht hin.vp hv hr hasg hdg (fun P1 h => k P1 (by rw [h, hin.2.1]))
end JIX
theorem rd_s {α : Type} {M1 M : Nat → Nat → α} {a k : Nat} {v : α} (h : M1 = up2 M a k v) : M1 a k = v := by rw [h]; exact up2_s
theorem rd_n {α : Type} {M1 M : Nat → Nat → α} {a k b j : Nat} {v w : α} (h : M1 = up2 M a k v) (hn : ¬ (b = a ∧ j = k)) (e : M b j = w) : M1 b j = w := by rw [h, up2_n hn]; exact e
section JNM
variable {G : Gx} {sc : Nat → Nat → Prop} {y : MethodName} {cc : ByteArray} {nL : Nat} {ret : Option FieldType} {d kc ks : Nat} {Φ : Option Value → Mem → Prop} {pc : Nat} {lv : List (Nat × Value)} {st : List Value}
variable {n : Nat} {S : Nat → Nat × Nat} {M : Nat → Nat → Int32} {L : Nat → Nat → Int64} {P : Nat → Nat → Option Nat}
theorem JJ_nm (k : ∀ M1, M1 = M → JJ G sc y cc nL ret d kc ks Φ pc lv st (n, S, M1, L, P)) : JJ G sc y cc nL ret d kc ks Φ pc lv st (n, S, M, L, P) := k M rfl
theorem JJ_nmL (k : ∀ L1, L1 = L → JJ G sc y cc nL ret d kc ks Φ pc lv st (n, S, M, L1, P)) : JJ G sc y cc nL ret d kc ks Φ pc lv st (n, S, M, L, P) := k L rfl
end JNM
/-- truth as an int -/
def b2 (c : Prop) [Decidable c] : Int32 := if c then 1 else 0
theorem b2_t {c : Prop} [Decidable c] (h : c) : b2 c = 1 := if_pos h
theorem b2_f {c : Prop} [Decidable c] (h : ¬ c) : b2 c = 0 := if_neg h
theorem b2_0 {c : Prop} [Decidable c] : b2 c = 0 ↔ ¬ c := by
  unfold b2
  split <;> simp_all
theorem b2_n {c : Prop} [Decidable c] : ¬ b2 c = 0 ↔ c := by
  unfold b2
  split <;> simp_all
theorem b2_z {c : Prop} [Decidable c] : b2 c = 0 ∨ b2 c = 1 := by
  unfold b2
  split
  · exact Or.inr rfl
  · exact Or.inl rfl
theorem b2_c {c c' : Prop} [Decidable c] [Decidable c'] (h : c ↔ c') : b2 c = b2 c' := by
  unfold b2
  by_cases q : c
  · rw [if_pos q, if_pos (h.mp q)]
  · rw [if_neg q, if_neg (fun z => q (h.mpr z))]
