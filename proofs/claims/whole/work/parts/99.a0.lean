/-! THE CLAIM OUT OF ONE WALK OF THE LAW'S BODY. Your part is whole_start (and what it stands on); all else here is the same for every law, but numbers. -/
def R_law : String := "MiddleOfCourtLaw"
def lw_P (b : Addr) (xs : List Int32) (args : Array Value) (s : State) : Prop := args = #[.ref b] ∧ s.IntsAt b xs ∧ xs.length ≤ 3072 ∧ (Jvm.Cond.and given_1 narrow_1).before args s = true
def lw_Q (_ : Array Value) (s : State) (o : Outcome) (t : State) : Prop := o = .returned (some (.int 1)) ∧ Framed s o t [] 600000 7302250
def lw_Z (below : List Frame) (a : Array Value) (s : State) : State → Prop := fun t => ∃ o, t.status = .running ∧ Ended t below o ∧ lw_Q a s o t
/-- the law's own end, with 1 on the stack, nothing written that was there before, its room as the claim has it -/
theorem lw_ret {p : Program} {l : Launch} {e : Env} {s : State} {m : MethodId} {below : List Frame} {meth : Method} {c : Code} {b : Nat} (hx : p.tables.exec = Jvm.exec) (hb : c.code = code) (hr : meth.sig.returnType = ret) (hlocks : meth.locks = false) {pc : Nat} {H : Heap} {ls : Array Slot} (hdg : decode code pc = .ok (.ireturn, 1)) : W p l e room_1 s m #[Value.ref b] below meth c H [] 600000 7302250 (lw_Z below #[Value.ref b] s) (F0 m pc ls [.int 1]) := by
  intro T hT X
  obtain ⟨fs, hret, hrun, hended, hW, hframe⟩ := X.leave (v := some (.int 1)) (hlocks := hlocks) (fun h => by rw [hr] at h; cases h)
  have hmeth' : T.vm.method? m = some meth := X.method'
  refine ⟨T.setFrames fs, ?_, .returned (some (.int 1)), hrun, hended, rfl, ⟨_, rfl⟩, hW, hframe⟩
  jvm_step X.here [X.here.top, hx, hb, hdg, hmeth', hr, ret, narrow_b1]
  (try refine ⟨rfl, ?_⟩); (try refine ⟨rfl, ?_⟩)
  first | (intro acts; rw [hret _ acts rfl rfl rfl]) | rw [hret _ _ rfl rfl rfl]
  exact Steps.refl _
/-- what holds at the law's entry: the machine, the code, the tables' words (any of lw_tbl by 'hts w (by decide +kernel)'), the script of L ints xs at the cell b, what the Statement gives of the start (any of its parts by flat_of_before) -/
def lw_At (p : Program) (s : State) (m : MethodId) (meth : Method) (c : Code) (b L : Nat) (xs : Nat → Int32) : Prop :=
  p.tables.exec = Jvm.exec ∧ c.code = code ∧ meth.sig.returnType = ret ∧ c.maxLocals = 4 ∧ s.vm.findClass R_law = some m.cls ∧ (∀ w ∈ lw_tbl, w.before #[Value.ref b] s = true) ∧ va_X b L xs s s.heap ∧ b < s.heap.size ∧ meth.locks = false ∧ (Jvm.Cond.and given_1 narrow_1).before #[Value.ref b] s = true
/-! ===== the law's judgement: from this place of its body, with this memory, it ends with 1 ===== -/
def CL (G : Gx) (b Ln : Nat) (xs : Nat → Int32) (p : Program) (s : State) (m : MethodId) (meth : Method) (c : Code) : Prop :=
  p.tables.exec = Jvm.exec ∧ c.code = code ∧ meth.sig.returnType = ret ∧ c.maxLocals = 4 ∧ (∀ w ∈ TBL, w.before #[Value.ref b] s = true) ∧ s.vm.findClass RL = some m.cls ∧ meth.locks = false ∧ KS G s ∧ STR G s s.heap ∧ va_X b Ln xs s s.heap ∧ b < s.heap.size ∧ gB G = s.heap.size
def LL (G : Gx) (sc : Nat → Nat → Prop) (b Ln : Nat) (xs : Nat → Int32) (kc ks pc : Nat) (lv : List (Nat × Value)) (st : List Value) (μ : Mem) : Prop :=
  ∀ μ', EQV sc μ' μ → ∀ (p : Program) (l : Launch) (e : Env) (s : State) (m : MethodId) (below : List Frame) (meth : Method) (c : Code) (H : Heap) (locs : List Loc) (cells slots : Nat) (ls : Array Slot),
    CL G b Ln xs p s m meth c → cells + kc = 600000 → slots + ks = 7302250 → va_S (gF G) s.heap H locs → WLD G μ' H → lv_has ls 4 lv →
    W p l e room_1 s m #[Value.ref b] below meth c H locs cells slots (lw_Z below #[Value.ref b] s) (F0 m pc ls st)
section LLR
variable {G : Gx} {sc : Nat → Nat → Prop} {b Ln : Nat} {xs : Nat → Int32} {kc ks pc : Nat} {lv : List (Nat × Value)} {st : List Value} {μ : Mem}
theorem LL.sub {lv' : List (Nat × Value)} (hs : ∀ q ∈ lv', q ∈ lv) (k : LL G sc b Ln xs kc ks pc lv' st μ) : LL G sc b Ln xs kc ks pc lv st μ :=
  fun μ' hq p l e s m below meth c H locs cells slots ls C h1 h2 hS hW hl => k μ' hq p l e s m below meth c H locs cells slots ls C h1 h2 hS hW ⟨hl.1, hl.2.1, fun q hq => hl.2.2 q (hs q hq)⟩
theorem LL.fewer {kc' ks' : Nat} (h1 : kc' ≤ kc) (h2 : ks' ≤ ks) (k : LL G sc b Ln xs kc' ks' pc lv st μ) : LL G sc b Ln xs kc ks pc lv st μ :=
  fun μ' hq p l e s m below meth c H locs cells slots ls C g1 g2 hS hW hl => W.widen (k := cells + (kc - kc')) (n := slots + (ks - ks')) (by omega) (by omega) (k μ' hq p l e s m below meth c H locs _ _ ls C (by omega) (by omega) hS hW hl)
theorem LL_r1 {v : Value} (k : LL G sc b Ln xs kc ks pc lv (v :: st) μ) : LL G sc b Ln xs kc ks pc lv ((some v).toList ++ st) μ := k
theorem LL_r0 (k : LL G sc b Ln xs kc ks pc lv st μ) : LL G sc b Ln xs kc ks pc lv ((none : Option Value).toList ++ st) μ := k
theorem LL_iadd {x1 x2 : Int32} (hdg : decode code pc = .ok (.iadd, 1)) (k : LL G sc b Ln xs kc ks (pc + 1) lv (.int (x1 + x2) :: st) μ) : LL G sc b Ln xs kc ks pc lv (.int x2 :: .int x1 :: st) μ :=
  fun μ' hq p l e s m below meth c H locs cells slots ls C h1 h2 hS hW hl => lv_iadd C.1 C.2.1 hdg (k μ' hq p l e s m below meth c H locs cells slots ls C h1 h2 hS hW hl)
theorem LL_isub {x1 x2 : Int32} (hdg : decode code pc = .ok (.isub, 1)) (k : LL G sc b Ln xs kc ks (pc + 1) lv (.int (x1 - x2) :: st) μ) : LL G sc b Ln xs kc ks pc lv (.int x2 :: .int x1 :: st) μ :=
  fun μ' hq p l e s m below meth c H locs cells slots ls C h1 h2 hS hW hl => lv_isub C.1 C.2.1 hdg (k μ' hq p l e s m below meth c H locs cells slots ls C h1 h2 hS hW hl)
theorem LL_iand {x1 x2 : Int32} (hdg : decode code pc = .ok (.iand, 1)) (k : LL G sc b Ln xs kc ks (pc + 1) lv (.int (x1 &&& x2) :: st) μ) : LL G sc b Ln xs kc ks pc lv (.int x2 :: .int x1 :: st) μ :=
  fun μ' hq p l e s m below meth c H locs cells slots ls C h1 h2 hS hW hl => lv_iand C.1 C.2.1 hdg (k μ' hq p l e s m below meth c H locs cells slots ls C h1 h2 hS hW hl)
theorem LL_lcmp {x1 x2 : Int64} (hdg : decode code pc = .ok (.lcmp, 1)) (k : LL G sc b Ln xs kc ks (pc + 1) lv (.int (lg_cmp x1 x2) :: st) μ) : LL G sc b Ln xs kc ks pc lv (.long x2 :: .long x1 :: st) μ :=
  fun μ' hq p l e s m below meth c H locs cells slots ls C h1 h2 hS hW hl => W.lcmp C.1 C.2.1 hdg (k μ' hq p l e s m below meth c H locs cells slots ls C h1 h2 hS hW hl)
theorem LL_dup {va : Value} (hdg : decode code pc = .ok (.dup, 1)) (hva : va.category = 1) (k : LL G sc b Ln xs kc ks (pc + 1) lv (va :: va :: st) μ) : LL G sc b Ln xs kc ks pc lv (va :: st) μ :=
  fun μ' hq p l e s m below meth c H locs cells slots ls C h1 h2 hS hW hl => lv_dup C.1 C.2.1 hdg hva (k μ' hq p l e s m below meth c H locs cells slots ls C h1 h2 hS hW hl)
theorem LL_iconst {n : Int} {v : Int32} (hdg : decode code pc = .ok (.iconst n, 1)) (hv : Int32.ofInt n = v) (k : LL G sc b Ln xs kc ks (pc + 1) lv (.int v :: st) μ) : LL G sc b Ln xs kc ks pc lv (st) μ :=
  fun μ' hq p l e s m below meth c H locs cells slots ls C h1 h2 hS hW hl => lv_iconst C.1 C.2.1 hdg hv (k μ' hq p l e s m below meth c H locs cells slots ls C h1 h2 hS hW hl)
theorem LL_bipush {n : Int} {v : Int32} (hdg : decode code pc = .ok (.bipush n, 2)) (hv : (Int8.ofInt n).toInt32 = v) (k : LL G sc b Ln xs kc ks (pc + 2) lv (.int v :: st) μ) : LL G sc b Ln xs kc ks pc lv (st) μ :=
  fun μ' hq p l e s m below meth c H locs cells slots ls C h1 h2 hS hW hl => lv_bipush C.1 C.2.1 hdg hv (k μ' hq p l e s m below meth c H locs cells slots ls C h1 h2 hS hW hl)
theorem LL_iload_n {k0 : Fin 4} {i : Nat} {x1 : Int32} (hdg : decode code pc = .ok (.iload_n k0, 1)) (hi : (k0 : Nat) = i) (hv : lg lv i = some (.int x1)) (k : LL G sc b Ln xs kc ks (pc + 1) lv (.int x1 :: st) μ) : LL G sc b Ln xs kc ks pc lv (st) μ :=
  fun μ' hq p l e s m below meth c H locs cells slots ls C h1 h2 hS hW hl => lv_iload_n C.1 C.2.1 hdg hi (lv_g hl (lg_mem hv)) (k μ' hq p l e s m below meth c H locs cells slots ls C h1 h2 hS hW hl)
theorem LL_aload_n {k0 : Fin 4} {i : Nat} {x1 : Nat} (hdg : decode code pc = .ok (.aload_n k0, 1)) (hi : (k0 : Nat) = i) (hv : lg lv i = some (.ref x1)) (k : LL G sc b Ln xs kc ks (pc + 1) lv (.ref x1 :: st) μ) : LL G sc b Ln xs kc ks pc lv (st) μ :=
  fun μ' hq p l e s m below meth c H locs cells slots ls C h1 h2 hS hW hl => lv_aload_n C.1 C.2.1 hdg hi (lv_g hl (lg_mem hv)) (k μ' hq p l e s m below meth c H locs cells slots ls C h1 h2 hS hW hl)
theorem LL_istore_n {k0 : Fin 4} {i : Nat} {x1 : Int32} {lv' : List (Nat × Value)} (hdg : decode code pc = .ok (.istore_n k0, 1)) (hi : (k0 : Nat) = i) (hn : i < 4) (hlv : (i, .int x1) :: lv.filter (fun q => !(q.1 == i) && !(q.1 + 1 == i && q.2.category == 2)) = lv') (k : LL G sc b Ln xs kc ks (pc + 1) lv' (st) μ) : LL G sc b Ln xs kc ks pc lv (.int x1 :: st) μ :=
  fun μ' hq p l e s m below meth c H locs cells slots ls C h1 h2 hS hW hl => lv_istore_n C.1 C.2.1 hdg hi hl hn hlv (fun ls hl => k μ' hq p l e s m below meth c H locs cells slots ls C h1 h2 hS hW hl)
theorem LL_astore_n {k0 : Fin 4} {i : Nat} {x1 : Nat} {lv' : List (Nat × Value)} (hdg : decode code pc = .ok (.astore_n k0, 1)) (hi : (k0 : Nat) = i) (hn : i < 4) (hlv : (i, .ref x1) :: lv.filter (fun q => !(q.1 == i) && !(q.1 + 1 == i && q.2.category == 2)) = lv') (k : LL G sc b Ln xs kc ks (pc + 1) lv' (st) μ) : LL G sc b Ln xs kc ks pc lv (.ref x1 :: st) μ :=
  fun μ' hq p l e s m below meth c H locs cells slots ls C h1 h2 hS hW hl => lv_astore_n C.1 C.2.1 hdg hi hl hn hlv (fun ls hl => k μ' hq p l e s m below meth c H locs cells slots ls C h1 h2 hS hW hl)
theorem LL_goto {off : Int} {tgt : Nat} (hdg : decode code pc = .ok (.goto off, 3)) (ht : (pc : Int) + off = (tgt : Int)) (k : LL G sc b Ln xs kc ks tgt lv (st) μ) : LL G sc b Ln xs kc ks pc lv (st) μ :=
  fun μ' hq p l e s m below meth c H locs cells slots ls C h1 h2 hS hW hl => lv_goto C.1 C.2.1 hdg ht (k μ' hq p l e s m below meth c H locs cells slots ls C h1 h2 hS hW hl)
theorem LL_tabOut {dflt lo hi : Int} {offs : Array Int} {len : Nat} {x1 : Int32} {tgt : Nat} (hdg : decode code pc = .ok (.tableswitch dflt lo hi offs, len)) (h : x1.toInt < lo ∨ hi < x1.toInt) (ht : (pc : Int) + dflt = (tgt : Int)) (k : LL G sc b Ln xs kc ks tgt lv (st) μ) : LL G sc b Ln xs kc ks pc lv (.int x1 :: st) μ :=
  fun μ' hq p l e s m below meth c H locs cells slots ls C h1 h2 hS hW hl => lv_tableOut C.1 C.2.1 hdg h ht (k μ' hq p l e s m below meth c H locs cells slots ls C h1 h2 hS hW hl)
theorem LL_tabIn {dflt lo hi : Int} {offs : Array Int} {len : Nat} {x1 : Int32} {off : Int} {tgt : Nat} (v : Int) (hdg : decode code pc = .ok (.tableswitch dflt lo hi offs, len)) (hx : x1.toInt = v) (hr : ¬ v < lo ∧ ¬ hi < v) (ho : offs[(v - lo).toNat]? = some off) (ht : (pc : Int) + off = (tgt : Int)) (k : LL G sc b Ln xs kc ks tgt lv (st) μ) : LL G sc b Ln xs kc ks pc lv (.int x1 :: st) μ :=
  fun μ' hq p l e s m below meth c H locs cells slots ls C h1 h2 hS hW hl => lv_tableIn C.1 C.2.1 hdg (by rw [hx]; exact hr.1) (by rw [hx]; exact hr.2) (by rw [hx]; exact ho) ht (k μ' hq p l e s m below meth c H locs cells slots ls C h1 h2 hS hW hl)
theorem LL_sld {i : Int32} {j : Nat} (hi : i = nI j) (hj : j < Ln) (hL : Ln ≤ 3072) (hdg : decode code pc = .ok (.iaload, 1)) (k : LL G sc b Ln xs kc ks (pc + 1) lv (.int (xs j) :: st) μ) : LL G sc b Ln xs kc ks pc lv (.int i :: .ref b :: st) μ :=
  fun μ' hq p l e s m below meth c H locs cells slots ls C h1 h2 hS hW hl => by
    subst hi
    refine va_sld C.1 C.2.1 C.2.2.2.2.2.2.2.2.2.1 C.2.2.2.2.2.2.2.2.2.2.1 (A := gF G) (by unfold gF; rw [C.2.2.2.2.2.2.2.2.2.2.2]; exact Nat.not_le.mpr C.2.2.2.2.2.2.2.2.2.2.1) hS (vp_in_nI hj (by omega)) hdg ?_
    rw [show (nI j).toNatClampNeg = j from nI_clamp (by omega)]
    exact k μ' hq p l e s m below meth c H locs cells slots ls C h1 h2 hS hW hl
theorem LL_slen  (hdg : decode code pc = .ok (.arraylength, 1)) (k : LL G sc b Ln xs kc ks (pc + 1) lv (.int (nI Ln) :: st) μ) : LL G sc b Ln xs kc ks pc lv (.ref b :: st) μ :=
  fun μ' hq p l e s m below meth c H locs cells slots ls C h1 h2 hS hW hl => va_slen C.1 C.2.1 C.2.2.2.2.2.2.2.2.2.1 C.2.2.2.2.2.2.2.2.2.2.1 (A := gF G) (by unfold gF; rw [C.2.2.2.2.2.2.2.2.2.2.2]; exact Nat.not_le.mpr C.2.2.2.2.2.2.2.2.2.2.1) hS hdg (k μ' hq p l e s m below meth c H locs cells slots ls C h1 h2 hS hW hl)
theorem LL_iinc {i : Nat} {n : Int} {x1 v : Int32} {lv' : List (Nat × Value)} (hdg : decode code pc = .ok (.iinc i n, 3)) (hx : lg lv i = some (.int x1)) (hv : x1 + Int32.ofInt n = v) (hn : i < 4) (hlv : (i, Value.int v) :: lv.filter (fun q => !(q.1 == i) && !(q.1 + 1 == i && q.2.category == 2)) = lv') (k : LL G sc b Ln xs kc ks (pc + 3) lv' st μ) : LL G sc b Ln xs kc ks pc lv st μ := by
  intro μ' hq p l e s m below meth c H locs cells slots ls C h1 h2 hS hW hl
  obtain ⟨k0, hk0⟩ := List.getElem?_of_mem (lg_mem hx)
  exact lv_iinc C.1 C.2.1 hdg hl hk0 hv hn hlv (fun ls hl => k μ' hq p l e s m below meth c H locs cells slots ls C h1 h2 hS hW hl)
theorem LL_icmp_eq {x1 x2 : Int32} {off : Int} {tgt : Nat} (hdg : decode code pc = .ok (.if_icmp .eq off, 3)) (ht : (pc : Int) + off = (tgt : Int)) (h : x1 = x2) (k : LL G sc b Ln xs kc ks tgt lv st μ) : LL G sc b Ln xs kc ks pc lv (.int x2 :: .int x1 :: st) μ :=
  fun μ' hq p l e s m below meth c H locs cells slots ls C h1 h2 hS hW hl => lv_icmp_eq C.1 C.2.1 hdg ht (fun _ => k μ' hq p l e s m below meth c H locs cells slots ls C h1 h2 hS hW hl) (fun q => absurd h q)
theorem LL_if_eq {x1 : Int32} {off : Int} {tgt : Nat} (hdg : decode code pc = .ok (.ifCond .eq off, 3)) (ht : (pc : Int) + off = (tgt : Int)) (h : x1 = 0) (k : LL G sc b Ln xs kc ks tgt lv st μ) : LL G sc b Ln xs kc ks pc lv (.int x1 :: st) μ :=
  fun μ' hq p l e s m below meth c H locs cells slots ls C h1 h2 hS hW hl => lv_if_eq C.1 C.2.1 hdg ht (fun _ => k μ' hq p l e s m below meth c H locs cells slots ls C h1 h2 hS hW hl) (fun q => absurd h q)
theorem LL_icmp_gt {x1 x2 : Int32} {off : Int} {tgt : Nat} (hdg : decode code pc = .ok (.if_icmp .gt off, 3)) (ht : (pc : Int) + off = (tgt : Int)) (kt : x2 < x1 → LL G sc b Ln xs kc ks tgt lv st μ) (kf : ¬ x2 < x1 → LL G sc b Ln xs kc ks (pc + 3) lv st μ) : LL G sc b Ln xs kc ks pc lv (.int x2 :: .int x1 :: st) μ :=
  fun μ' hq p l e s m below meth c H locs cells slots ls C h1 h2 hS hW hl => lv_icmp_gt C.1 C.2.1 hdg ht (fun q => kt q μ' hq p l e s m below meth c H locs cells slots ls C h1 h2 hS hW hl) (fun q => kf q μ' hq p l e s m below meth c H locs cells slots ls C h1 h2 hS hW hl)
/-- its end -/
theorem LL_ret (hdg : decode code pc = .ok (.ireturn, 1)) : LL G sc b Ln xs kc ks pc lv [.int 1] μ := by
  intro μ' hq p l e s m below meth c H locs cells slots ls C h1 h2 hS hW hl
  refine va_forget (fun q hq => ?_) ?_
  · have := hS.2.2 q hq
    unfold gF at this
    rw [C.2.2.2.2.2.2.2.2.2.2.2] at this
    exact this
  · refine W.widen (k := 600000) (n := 7302250) (by omega) (by omega) ?_
    exact lw_ret C.1 C.2.1 C.2.2.1 C.2.2.2.2.2.2.1 hdg
theorem LL_new {n ci idx kc' ks' : Nat} {S : Nat → Nat × Nat} {M : Nat → Nat → Int32} {L : Nat → Nat → Int64} {P : Nat → Nat → Option Nat} {r : vw_C} (hc : vwCl[ci]? = some r) (hl1 : Cond.classLink RL idx r.1 ∈ TBL) (hl2 : Cond.instantiable r.1 r.2.2 ∈ TBL) (hl3 : Cond.initialized r.1 ∈ TBL) (hk1 : kc' + 1 = kc) (hk2 : ks' + r.2.2 = ks) (hdg : decode code pc = .ok (.new idx, 3))
    (kk : LL G sc b Ln xs kc' ks' (pc + 3) lv (.ref n :: st) (n + 1, upS S n (ci + 1, 0), upR M n 0, upR L n 0, upR P n none)) : LL G sc b Ln xs kc ks pc lv st (n, S, M, L, P) := by
  intro μ' hq p l e s m below meth c H locs cells slots ls C h1 h2 hS hW hl
  have hts := C.2.2.2.2.1
  have hKn := C.2.2.2.2.2.2.2.1.1.1 ci _ hc
  have hn : μ'.1 = n := hq.1
  obtain ⟨ty, hty, hdef⟩ := cls_ty ci r hc
  refine W.newcK C.1 C.2.1 C.2.2.2.2.2.1 (hts _ hl1) (hts _ hl2) (hts _ hl3) rfl hdg (by show cells + 1 ≤ 600000; omega) (by show slots + r.2.2 ≤ 7302250; omega) hKn.2.1 hW.1 fun H1 kC hkC e1 z1 o1 => ?_
  have hq2 : EQV sc (newM μ' (ci + 1) 0) (n + 1, upS S n (ci + 1, 0), upR M n 0, upR L n 0, upR P n none) := hq.new (ci + 1) 0
  have hw := wld_push (κ := ci + 1) (n := 0) hW z1 o1 (fun cj r' hcj hr' => by
    have e : cj = ci := by omega
    subst e
    have er : r' = r := Option.some.inj (hr'.symm.trans hc)
    subst er
    exact (u_born ty hts (cls_in cj r' hc) hKn hkC e1 hty).to (fun k hk => by rw [fv_new]; exact hdef k hk)) (fun t ht => by have := cls_lt hc; omega)
  have kk2 := kk _ hq2 p l e s m below meth c H1 locs (cells + 1) (slots + r.2.2) ls C (by omega) (by omega) (va_S_push hS (by rw [z1, hW.1]) (fun q hq => o1 q (by rw [← hW.1]; exact hq))) hw hl
  rw [← hn] at kk2
  exact kk2
theorem L_pre {p : Program} {s : State} {m : MethodId} {meth : Method} {c : Code} {H : Heap} {locs : List Loc} {As : List Value} (C : CL G b Ln xs p s m meth c) (hS : va_S (gF G) s.heap H locs) (hW : WLD G μ H) :
    ∀ U : State, U.heap = H → s.WarmedH U.vm → va_Pc As (fun U => WLD G μ U.heap ∧ KS G U ∧ STR G U U.heap) As.toArray U := by
  intro U hU hWm
  refine ⟨rfl, by rw [hU]; exact hW, C.2.2.2.2.2.2.2.1.warm hWm, ?_⟩
  rw [hU]
  exact (C.2.2.2.2.2.2.2.2.1.kept (fun a ha hn => hS.2.1 a ha hn)).moved hWm.alike
theorem LL_run {mc' ms' kc' ks' : Nat} {Φ' : Option Value → Mem → Prop} {rest : List Value} {a : Array Value} (hk1 : kc' + mc' = kc) (hk2 : ks' + ms' = ks)
    (hr : ∀ μ', EQV sc μ' μ → ∀ (p : Program) (l : Launch) (e : Env) (s : State) (m : MethodId) (below : List Frame) (meth : Method) (c : Code) (H : Heap) (locs : List Loc) (cells slots : Nat) (ls : Array Slot),
      CL G b Ln xs p s m meth c → cells + kc = 600000 → slots + ks = 7302250 → va_S (gF G) s.heap H locs → WLD G μ' H → lv_has ls 4 lv →
      va_Run p l e room_1 s m #[Value.ref b] below meth c H locs cells slots mc' ms' (F0 m pc ls st) rest (QJ G (Φs sc Φ') a) (gF G))
    (kk : ∀ v μ', Φ' v μ' → LL G sc b Ln xs kc' ks' (pc + 3) lv (v.toList ++ rest) μ') : LL G sc b Ln xs kc ks pc lv st μ := by
  intro μ0 hq p l e s m below meth c H locs cells slots ls C h1 h2 hS hW hl T hT X
  obtain ⟨v, st₀, t, T', L, h0, X', hL, e1, e2, ⟨⟨v', μ', hv, ⟨ν0, hq2, hp⟩, hw⟩, hz, hk⟩, stp⟩ := hr μ0 hq p l e s m below meth c H locs cells slots ls C h1 h2 hS hW hl T hT X
  cases hv
  rw [h0] at hz hk
  obtain ⟨t2, a1, b1⟩ := kk v ν0 hp μ' hq2 p l e s m below meth c T'.heap (locs ++ L) (cells + mc') (slots + ms') ls C (by omega) (by omega)
    ⟨Nat.le_trans hS.1 (by rw [e1]; exact hz), fun q h1 h2 => by rw [e1, hk q (Nat.lt_of_lt_of_le h1 hS.1) h2]; exact hS.2.1 q h1 h2, fun q hq => by
      rcases List.mem_append.mp hq with h | h
      · exact hS.2.2 q h
      · exact hL q h⟩ (by rw [e1]; exact hw) hl T' rfl X'
  exact ⟨t2, stp t2 a1, b1⟩
variable {y' : MethodName} {cc' : ByteArray} {nL' : Nat} {ret' : Option FieldType} {d' mc' ms' kc' ks' idx : Nat} {As rest : List Value} {Φ' : Option Value → Mem → Prop}
theorem LL_callV {bb ci : Nat} {r : vw_C} (hs : (sh μ bb).1 = ci + 1) (hc : vwCl[ci]? = some r) (hr : r.1 = y'.cls) (hK : KK G sc y' cc' nL' ret' d' mc' ms' (.ref bb :: As) μ Φ') (hd : d' < 2000) (hM : MI y' cc' nL' ret' As.length) (hL : LV RL idx y') (hst : st = As.reverse ++ .ref bb :: rest) (hrest : (rest.map fun v => v.category).sum ≤ 8) (hk1 : kc' + mc' = kc) (hk2 : ks' + ms' = ks) (hdg : decode code pc = .ok (.invokevirtual idx, 3))
    (kk : ∀ v μ', Φ' v μ' → LL G sc b Ln xs kc' ks' (pc + 3) lv (v.toList ++ rest) μ') : LL G sc b Ln xs kc ks pc lv st μ := by
  refine LL_run (a := (Value.ref bb :: As).toArray) hk1 hk2 ?_ kk
  intro μ0 hq p l e s m below meth c H locs cells slots ls C h1 h2 hS hW hl
  have hts := C.2.2.2.2.1
  have hG := TBL_in hM.1
  have hT : GoodIn TBL (wsV RL idx y'.cls y' (.code y' cc' nL' ret' :: TBL)) := by
    intro w hw
    unfold wsV at hw
    rcases List.mem_append.mp hw with q | q
    · simp only [List.mem_cons, List.not_mem_nil, or_false] at q
      have hin : w ∈ TBL := by rcases q with rfl | rfl | rfl | rfl <;> first | exact hL.1 | exact hL.2.1 | exact hL.2.2 | exact hM.2.1
      exact ⟨hin, good_of_word (List.all_eq_true.mp TBL_good w hin)⟩
    · exact hG w q
  have hrecv : ∃ cellB : Cell, H[bb]? = some cellB ∧ cellB.vm.isStatics = false ∧ s.vm.findClass y'.cls = some cellB.cls := by
    obtain ⟨cell, g1, g2, g3, -⟩ := hW.2.2.2.1 bb ci r (by rw [hq.2.1]; exact hs) hc
    exact ⟨cell, g1, by rw [g3]; rfl, by rw [g2, ← hr]; exact (C.2.2.2.2.2.2.2.1.1.1 ci r hc).2.1⟩
  exact va_runV ⟨C.1, C.2.1, C.2.2.2.1, C.2.2.2.2.2.1, hts⟩ (hK μ0 hq l) (cwV As.length hts hT rfl rfl rfl ⟨rfl, hM.2.2.1⟩ ⟨by show d' + 2 + 1 ≤ 2048; omega, by have := hM.2.2.2; show 8 + (nL' + 11) + 40 * (d' + 2) ≤ 84000; omega⟩) ⟨K_blind, hrecv, L_pre C hS hW⟩ rfl rfl hl.1 hst (lv_room hrest) hdg ⟨by show cells + mc' ≤ 600000; omega, by show slots + ms' ≤ 7302250; omega⟩
theorem LL_callI {bb : Nat} (hret : ret' = none) (hK : KK G sc y' cc' nL' ret' d' mc' ms' (.ref bb :: As) μ Φ') (hd : d' < 2000) (hM : MI y' cc' nL' ret' As.length) (hL : LI RL idx y') (hst : st = As.reverse ++ .ref bb :: rest) (hrest : (rest.map fun v => v.category).sum ≤ 8) (hk1 : kc' + mc' = kc) (hk2 : ks' + ms' = ks) (hdg : decode code pc = .ok (.invokespecial idx, 3))
    (kk : ∀ v μ', Φ' v μ' → LL G sc b Ln xs kc' ks' (pc + 3) lv (v.toList ++ rest) μ') : LL G sc b Ln xs kc ks pc lv st μ := by
  subst hret
  refine LL_run (a := (Value.ref bb :: As).toArray) hk1 hk2 ?_ kk
  intro μ0 hq p l e s m below meth c H locs cells slots ls C h1 h2 hS hW hl
  have hts := C.2.2.2.2.1
  exact va_runI ⟨C.1, C.2.1, C.2.2.2.1, C.2.2.2.2.2.1, hts⟩ (hK μ0 hq l) (cwI As.length hts (TBL_in hM.1) rfl rfl rfl (hts _ hM.2.1) (hts _ hL.1) (hts _ hL.2.1) hL.2.2 hM.2.2.1 ⟨by show d' + 2 + 1 ≤ 2048; omega, by have := hM.2.2.2; show 8 + (nL' + 11) + 40 * (d' + 2) ≤ 84000; omega⟩) ⟨K_blind, L_pre C hS hW⟩ rfl rfl hl.1 hst (lv_room hrest) hdg ⟨by show cells + mc' ≤ 600000; omega, by show slots + ms' ≤ 7302250; omega⟩
end LLR
