
/-! ===== THE TYPED HEAP: what the cells of the class and of the reference hold, by address and slot ===== -/
/-- where the launch put things: class numbers, slots, array classes, the first address of ours, the String constants -/
abbrev Gx : Type := (Nat → ClassId) × (Nat → Nat → Nat) × (Nat → ClassId) × Nat × (Nat → Nat) × (Nat → Nat)
abbrev gD (G : Gx) : va_G := (G.1, G.2.1)
abbrev gA (G : Gx) : Nat → ClassId := G.2.2.1
abbrev gB (G : Gx) : Nat := G.2.2.2.1
abbrev gK (G : Gx) : Nat → Nat := G.2.2.2.2.1
abbrev gV (G : Gx) : Nat → Nat := G.2.2.2.2.2
def gF (G : Gx) : Nat → Prop := fun q => gB G ≤ q
/-- a memory: how many cells, the shape of each (kind, length), ints, longs, references -/
abbrev Mem : Type := Nat × (Nat → Nat × Nat) × (Nat → Nat → Int32) × (Nat → Nat → Int64) × (Nat → Nat → Option Nat)
abbrev sh (μ : Mem) : Nat → Nat × Nat := μ.2.1
abbrev rI (μ : Mem) : Nat → Nat → Int32 := μ.2.2.1
abbrev rL (μ : Mem) : Nat → Nat → Int64 := μ.2.2.2.1
abbrev rP (μ : Mem) : Nat → Nat → Option Nat := μ.2.2.2.2
def up2 {α : Type} (f : Nat → Nat → α) (a k : Nat) (v : α) : Nat → Nat → α := fun b j => if b = a ∧ j = k then v else f b j
abbrev setI (μ : Mem) (a k : Nat) (v : Int32) : Mem := (μ.1, μ.2.1, up2 μ.2.2.1 a k v, μ.2.2.2.1, μ.2.2.2.2)
abbrev setL (μ : Mem) (a k : Nat) (v : Int64) : Mem := (μ.1, μ.2.1, μ.2.2.1, up2 μ.2.2.2.1 a k v, μ.2.2.2.2)
abbrev setP (μ : Mem) (a k : Nat) (v : Option Nat) : Mem := (μ.1, μ.2.1, μ.2.2.1, μ.2.2.2.1, up2 μ.2.2.2.2 a k v)
def upR {α : Type} (f : Nat → Nat → α) (a : Nat) (v : α) : Nat → Nat → α := fun b j => if b = a then v else f b j
def upS (f : Nat → Nat × Nat) (a : Nat) (v : Nat × Nat) : Nat → Nat × Nat := fun b => if b = a then v else f b
abbrev newM (μ : Mem) (κ n : Nat) : Mem := (μ.1 + 1, upS μ.2.1 μ.1 (κ, n), upR μ.2.2.1 μ.1 0, upR μ.2.2.2.1 μ.1 0, upR μ.2.2.2.2 μ.1 none)
theorem up2_s {α : Type} {f : Nat → Nat → α} {a k : Nat} {v : α} : up2 f a k v a k = v := if_pos ⟨rfl, rfl⟩
theorem up2_n {α : Type} {f : Nat → Nat → α} {a k b j : Nat} {v : α} (h : ¬ (b = a ∧ j = k)) : up2 f a k v b j = f b j := if_neg h
theorem up2_a {α : Type} {f : Nat → Nat → α} {a k b : Nat} {v : α} (h : b ≠ a) : up2 f a k v b = f b := funext fun j => if_neg fun q => h q.1
/-- the kind of each class's fields: 0 an int, 1 a long, 2 a reference -/
def fkl : List (List Nat) := [[0, 0], [2, 2, 0, 2], [0, 0], [0, 0], [0, 0], [0, 0], [0, 0, 0, 0], [2, 0, 0], [0, 0], [2, 0, 2, 0, 0, 0, 0, 0], [0, 2, 2, 2, 2, 0], [2, 2, 0, 2, 0, 2, 2, 2, 2, 2, 2, 0, 2, 2, 0, 1, 0, 0, 0], [0, 2, 2, 0, 0, 2, 0, 2, 2, 2, 2, 0, 2, 2, 2, 0, 0, 0, 0, 0, 0, 0, 0, 0, 0, 0, 0, 1, 0, 0, 0, 0, 2, 0, 0, 0, 1, 0, 2, 0, 0, 0, 2, 2, 0, 0, 0, 2, 2, 2, 2]]
def fkd (ci k : Nat) : Nat := (fkl.getD ci []).getD k 0
def fv (κ : Nat) (μ : Mem) (a k : Nat) : Value := match κ with
  | 0 => .int (rI μ a k)
  | 1 => .long (rL μ a k)
  | _ => va_rf (rP μ a k)
/-- the arrays' types -/
def aty : Nat → FieldType := fun t => match t with
  | 0 => .int
  | 1 => .boolean
  | 2 => .object RX10
  | 3 => .object RX8
  | 4 => .object RX1
  | _ => .object RX7
def av (t : Nat) (μ : Mem) (a j : Nat) : Value := match t with
  | 0 => .int (rI μ a j)
  | 1 => .int (rI μ a j)
  | _ => va_rf (rP μ a j)
def gT (G : Gx) : List (ClassId × FieldType) := [(gA G 0, aty 0), (gA G 1, aty 1), (gA G 2, aty 2), (gA G 3, aty 3), (gA G 4, aty 4), (gA G 5, aty 5)]
theorem gT_at (G : Gx) : ∀ t, t < 6 → (gT G)[t]? = some (gA G t, aty t) := by
  intro t ht
  match t, ht with
  | 0, _ => rfl
  | 1, _ => rfl
  | 2, _ => rfl
  | 3, _ => rfl
  | 4, _ => rfl
  | 5, _ => rfl
def WLD (G : Gx) (μ : Mem) (H : Heap) : Prop := H.size = μ.1 ∧ gB G ≤ H.size ∧ (∀ a, (sh μ a).1 ≠ 0 → gB G ≤ a ∧ a < H.size) ∧
  (∀ (a ci : Nat) (r : vw_C), (sh μ a).1 = ci + 1 → vwCl[ci]? = some r → t_OB a (G.1 ci) r.2.2 (G.2.1 ci) H (fun k => fv (fkd ci k) μ a k)) ∧
  ∀ (a t : Nat), (sh μ a).1 = 20 + t → H[a]? = some (arrV (gA G t) (sh μ a).2 (av t μ a))

def NW : List Cond := [.methodLinkNest "MiddleOfCourt" 17 ⟨"MiddleOfCourt$Tape", "<init>", "()V"⟩ "MiddleOfCourt", .methodLinkNest "MiddleOfCourt$Court" 11 ⟨"MiddleOfCourt$Player", "<init>", "()V"⟩ "MiddleOfCourt", .methodLinkNest "MiddleOfCourt" 107 ⟨"MiddleOfCourt$Sheet", "<init>", "()V"⟩ "MiddleOfCourt", .methodLinkNest "MiddleOfCourt$Boast" 15 ⟨"MiddleOfCourt", "across", "(I)I"⟩ "MiddleOfCourt", .methodLinkNest "MiddleOfCourt$Cross" 13 ⟨"MiddleOfCourt", "across", "(I)I"⟩ "MiddleOfCourt", .methodLinkNest "MiddleOfCourt$Court" 33 ⟨"MiddleOfCourt", "apart", "(II)I"⟩ "MiddleOfCourt", .methodLinkNest "MiddleOfCourt$Court" 43 ⟨"MiddleOfCourt", "within", "(II)I"⟩ "MiddleOfCourt", .methodLinkNest "MiddleOfCourt$Player" 30 ⟨"MiddleOfCourt", "apart", "(II)I"⟩ "MiddleOfCourt", .methodLinkNest "MiddleOfCourt$Sheet" 22 ⟨"MiddleOfCourt", "within", "(II)I"⟩ "MiddleOfCourt"]
def CW : List (String × String) := [("MiddleOfCourt$Cross", "MiddleOfCourt$Length"), ("MiddleOfCourt$Lob", "MiddleOfCourt$Length"), ("MiddleOfCourt$Boast", "MiddleOfCourt$Drop"), ("MiddleOfCourt$Length", "MiddleOfCourt$Stroke"), ("MiddleOfCourt$Drop", "MiddleOfCourt$Stroke"), ("MiddleOfCourt$Lob", "MiddleOfCourt$Stroke"), ("MiddleOfCourt$Boast", "MiddleOfCourt$Stroke"), ("MiddleOfCourt$Cross", "MiddleOfCourt$Stroke")]
def OW : List String := ["MiddleOfCourt$Text", "MiddleOfCourt$Stroke", "MiddleOfCourt$Court", "MiddleOfCourt$Sheet"]
def NC : List (String × String) := [("MiddleOfCourt$Drop", "MiddleOfCourt$Length"), ("MiddleOfCourt$Boast", "MiddleOfCourt$Length"), ("MiddleOfCourt$Stroke", "MiddleOfCourt$Length"), ("MiddleOfCourt$Length", "MiddleOfCourt$Drop"), ("MiddleOfCourt$Lob", "MiddleOfCourt$Drop"), ("MiddleOfCourt$Cross", "MiddleOfCourt$Drop"), ("MiddleOfCourt$Stroke", "MiddleOfCourt$Drop"), ("MiddleOfCourt$Length", "MiddleOfCourt$Lob"), ("MiddleOfCourt$Drop", "MiddleOfCourt$Lob"), ("MiddleOfCourt$Boast", "MiddleOfCourt$Lob"), ("MiddleOfCourt$Cross", "MiddleOfCourt$Lob"), ("MiddleOfCourt$Stroke", "MiddleOfCourt$Lob"), ("MiddleOfCourt$Length", "MiddleOfCourt$Boast"), ("MiddleOfCourt$Drop", "MiddleOfCourt$Boast"), ("MiddleOfCourt$Lob", "MiddleOfCourt$Boast"), ("MiddleOfCourt$Cross", "MiddleOfCourt$Boast"), ("MiddleOfCourt$Stroke", "MiddleOfCourt$Boast"), ("MiddleOfCourt$Length", "MiddleOfCourt$Cross"), ("MiddleOfCourt$Drop", "MiddleOfCourt$Cross"), ("MiddleOfCourt$Lob", "MiddleOfCourt$Cross"), ("MiddleOfCourt$Boast", "MiddleOfCourt$Cross"), ("MiddleOfCourt$Stroke", "MiddleOfCourt$Cross"), ("[LMiddleOfCourt$Stroke;", "MiddleOfCourt$Length"), ("[LMiddleOfCourt$Stroke;", "MiddleOfCourt$Drop"), ("[LMiddleOfCourt$Stroke;", "MiddleOfCourt$Lob"), ("[LMiddleOfCourt$Stroke;", "MiddleOfCourt$Boast"), ("[LMiddleOfCourt$Stroke;", "MiddleOfCourt$Cross"), ("MiddleOfCourt$Length", "MiddleOfCourt$Text"), ("MiddleOfCourt$Drop", "MiddleOfCourt$Text"), ("MiddleOfCourt$Lob", "MiddleOfCourt$Text"), ("MiddleOfCourt$Boast", "MiddleOfCourt$Text"), ("MiddleOfCourt$Cross", "MiddleOfCourt$Text"), ("MiddleOfCourt$Stroke", "MiddleOfCourt$Text"), ("MiddleOfCourt", "MiddleOfCourt$Stroke"), ("MiddleOfCourt$Tape", "MiddleOfCourt$Stroke"), ("MiddleOfCourt$Text", "MiddleOfCourt$Stroke"), ("MiddleOfCourt$Court", "MiddleOfCourt$Stroke"), ("MiddleOfCourt$Player", "MiddleOfCourt$Stroke"), ("MiddleOfCourt$Sheet", "MiddleOfCourt$Stroke"), ("MiddleOfCourtModel", "MiddleOfCourt$Stroke"), ("java/lang/String", "MiddleOfCourt$Stroke"), ("MiddleOfCourt$Length", "MiddleOfCourt$Court"), ("MiddleOfCourt$Drop", "MiddleOfCourt$Court"), ("MiddleOfCourt$Lob", "MiddleOfCourt$Court"), ("MiddleOfCourt$Boast", "MiddleOfCourt$Court"), ("MiddleOfCourt$Cross", "MiddleOfCourt$Court"), ("MiddleOfCourt$Stroke", "MiddleOfCourt$Court"), ("MiddleOfCourt$Length", "MiddleOfCourt$Sheet"), ("MiddleOfCourt$Drop", "MiddleOfCourt$Sheet"), ("MiddleOfCourt$Lob", "MiddleOfCourt$Sheet"), ("MiddleOfCourt$Boast", "MiddleOfCourt$Sheet"), ("MiddleOfCourt$Cross", "MiddleOfCourt$Sheet"), ("MiddleOfCourt$Stroke", "MiddleOfCourt$Sheet")]
/-- the String constants: owner, place, text; lengths; bytes -/
def SQ : List (String × Nat × String) := [("MiddleOfCourt", 81, "flies 8 + far * 3 ; steps 9 - quick ; slips far * 2 ;"), ("MiddleOfCourt$Tape", 121, "far"), ("MiddleOfCourt$Tape", 127, "warm"), ("MiddleOfCourt$Tape", 129, "legs"), ("MiddleOfCourt$Tape", 131, "quick"), ("MiddleOfCourt$Tape", 133, "number"), ("MiddleOfCourt$Tape", 135, "cell"), ("MiddleOfCourt$Tape", 137, "flies"), ("MiddleOfCourt$Tape", 139, "steps"), ("MiddleOfCourt$Tape", 141, "slips"), ("MiddleOfCourt$Tape", 143, "or"), ("MiddleOfCourt$Tape", 145, "and"), ("MiddleOfCourt$Tape", 147, "not")]
def lenS : List Nat := [53, 3, 4, 4, 5, 6, 4, 5, 5, 5, 2, 3, 3]
def bytS : List (List Int32) := [[102, 108, 105, 101, 115, 32, 56, 32, 43, 32, 102, 97, 114, 32, 42, 32, 51, 32, 59, 32, 115, 116, 101, 112, 115, 32, 57, 32, 45, 32, 113, 117, 105, 99, 107, 32, 59, 32, 115, 108, 105, 112, 115, 32, 102, 97, 114, 32, 42, 32, 50, 32, 59], [102, 97, 114], [119, 97, 114, 109], [108, 101, 103, 115], [113, 117, 105, 99, 107], [110, 117, 109, 98, 101, 114], [99, 101, 108, 108], [102, 108, 105, 101, 115], [115, 116, 101, 112, 115], [115, 108, 105, 112, 115], [111, 114], [97, 110, 100], [110, 111, 116]]
/-! ===== the judgement: from this place of a method, with these locals, stack and memory, it returns, and Φ holds of the answer and the memory then ===== -/
def NCs (U : State) : Prop := ∀ q ∈ NC, va_Nc q.1 q.2 U
def KS (G : Gx) (U : State) : Prop := va_K (gD G) vwCl (gT G) U ∧ (∀ w ∈ NW, va_Nw w U) ∧ (∀ q ∈ CW, va_Nw (.castable q.1 q.2) U) ∧ (∀ C ∈ OW, va_AO C U) ∧ NCs U ∧ ∀ i, i < 13 → ∀ q, SQ[i]? = some q → vk_R q.1 q.2.1 q.2.2 (gK G i) U
def STR (G : Gx) (U : State) (H : Heap) : Prop := vk_S 13 lenS bytS (gK G) (gV G) (gF G) U H ∧ va_Z "java/lang/String" "COMPACT_STRINGS" "Z" (.int 1) (gF G) U H ∧ va_Zq "jdk/internal/util/Preconditions" "SIOOBE_FORMATTER" "Ljava/util/function/BiFunction;" (gF G) U H
theorem STR.moved {G : Gx} {u U : State} {H : Heap} (hvm : u.vm.Alike U.vm) (h : STR G u H) : STR G U H := ⟨h.1.moved hvm, h.2.1.moved hvm, h.2.2.moved hvm⟩
theorem STR.kept {G : Gx} {U : State} {H H1 : Heap} (h : STR G U H) (hq : ∀ a : Nat, a < H.size → ¬ gF G a → H1[a]? = H[a]?) : STR G U H1 := ⟨h.1.kept hq, h.2.1.kept hq, h.2.2.kept hq⟩
theorem NW_warm {s U : State} (hW : s.WarmedH U.vm) (h : ∀ w ∈ NW, va_Nw w s) : ∀ w ∈ NW, va_Nw w U := by
  intro w hw
  have h1 := h w hw
  simp only [NW, List.mem_cons, List.not_mem_nil, or_false] at hw
  rcases hw with rfl | rfl | rfl | rfl | rfl | rfl | rfl | rfl | rfl <;> exact va_Nw.warmM hW h1
theorem KS.warm {G : Gx} {s U : State} (hW : s.WarmedH U.vm) (h : KS G s) : KS G U :=
  ⟨h.1.moved hW.alike, NW_warm hW h.2.1, fun q hq => va_Nw.warmC hW (h.2.2.1 q hq), fun C hC => (h.2.2.2.1 C hC).moved hW.alike, fun q hq => (h.2.2.2.2.1 q hq).moved hW.alike, fun i hi q hq => (h.2.2.2.2.2 i hi q hq).warm hW⟩
theorem KS.same {G : Gx} {u U : State} (hv : u.vm = U.vm) (h : KS G u) : KS G U :=
  ⟨h.1.moved (hv ▸ Vm.Alike.refl _), fun w hw => va_Nw.same (by simp only [NW, List.mem_cons, List.not_mem_nil, or_false] at hw; rcases hw with rfl | rfl | rfl | rfl | rfl | rfl | rfl | rfl | rfl <;> rfl) hv (h.2.1 w hw), fun q hq => va_Nw.same rfl hv (h.2.2.1 q hq), fun C hC => (h.2.2.2.1 C hC).moved (hv ▸ Vm.Alike.refl _), fun q hq => (h.2.2.2.2.1 q hq).moved (hv ▸ Vm.Alike.refl _), fun i hi q hq => (h.2.2.2.2.2 i hi q hq).same hv.symm⟩
abbrev rmJ (d mc ms : Nat) : Room := { frames := d + 2, cells := mc, slots := ms, locals := 40 * (d + 2) }
def Cx (G : Gx) (y : MethodName) (cc : ByteArray) (nL : Nat) (ret : Option FieldType) (p : Program) (s : State) (m : MethodId) (args : Array Value) (meth : Method) (c : Code) : Prop :=
  p.tables.exec = Jvm.exec ∧ c.code = cc ∧ meth.sig.returnType = ret ∧ c.maxLocals = nL ∧ (∀ w ∈ TBL, w.before args s = true) ∧ s.vm.findClass y.cls = some m.cls ∧ meth.locks = false ∧ meth.name = y.name ∧ KS G s ∧ STR G s s.heap
def QJ (G : Gx) (Φ : Option Value → Mem → Prop) : Array Value → State → Outcome → State → Prop := fun _ st oc t => (∃ (v : Option Value) (μ : Mem), oc = .returned v ∧ Φ v μ ∧ WLD G μ t.heap) ∧ va_F (gF G) st t
def J (G : Gx) (y : MethodName) (cc : ByteArray) (nL : Nat) (ret : Option FieldType) (d kc ks : Nat) (Φ : Option Value → Mem → Prop) (pc : Nat) (lv : List (Nat × Value)) (st : List Value) (μ : Mem) : Prop :=
  ∀ (p : Program) (l : Launch) (e : Env) (s : State) (m : MethodId) (args : Array Value) (below : List Frame) (meth : Method) (c : Code) (H : Heap) (locs : List Loc) (cells slots mc ms : Nat) (ls : Array Slot),
    Cx G y cc nL ret p s m args meth c → cells + kc = mc → slots + ks = ms → va_S (gF G) s.heap H locs → WLD G μ H → lv_has ls nL lv →
    W p l e (rmJ d mc ms) s m args below meth c H locs cells slots (MQ below (QJ G Φ) args s mc ms (gF G)) (F0 m pc ls st)
def K (G : Gx) (y : MethodName) (cc : ByteArray) (nL : Nat) (ret : Option FieldType) (d mc ms : Nat) (As : List Value) (μ : Mem) (Φ : Option Value → Mem → Prop) : Prop :=
  ∀ l : Launch, Met l y (.code y cc nL ret :: TBL) (rmJ d mc ms) (va_Pc As (fun U => WLD G μ U.heap ∧ KS G U ∧ STR G U U.heap)) (QJ G Φ) mc ms (gF G)
theorem TBL_good : TBL.all goodWord = true := List.all_eq_true.mpr fun _ h => (List.mem_filter.mp h).2
theorem TBL_in {y : MethodName} {cc : ByteArray} {nL : Nat} {ret : Option FieldType} (h : Cond.code y cc nL ret ∈ TBL) : GoodIn TBL (.code y cc nL ret :: TBL) := by
  intro w hw
  have h1 : w ∈ TBL := by
    rcases List.mem_cons.mp hw with q | q
    · rw [q]; exact h
    · exact q
  exact ⟨h1, good_of_word (List.all_eq_true.mp TBL_good w h1)⟩
/-- the contract out of the walk -/
theorem K_of {G : Gx} {y : MethodName} {cc : ByteArray} {nL : Nat} {ret : Option FieldType} {d mc ms : Nat} {As : List Value} {μ : Mem} {Φ : Option Value → Mem → Prop} (hy : plainName y.cls = true) (hn : (lg_sl As).length ≤ nL)
    (h : J G y cc nL ret d mc ms Φ 0 (lv_args 0 As) [] μ) : K G y cc nL ret d mc ms As μ Φ := by
  intro l
  refine Met.ofW (cc := cc) (maxL := nL) (ret := ret) hy rfl ?_
  intro p e s m args below meth c s₁ B hml hv
  obtain ⟨rfl, hP, hK, hT⟩ := hv
  have hts := atoms_spec (ws := .code y cc nL ret :: TBL) B.pre
  have hl := lv_entry As hn
  rw [lg_entry_eq]
  exact h p l e s m _ below meth c s.heap [] 0 0 mc ms _ ⟨B.exec, B.bytes, B.returns, hml, fun w hw => hts w (List.mem_cons_of_mem _ hw), findClass_of_methodNamed B.named, B.notSynchronized, (name_of_methodNamed B.named B.method).1, hK, hT⟩ (Nat.zero_add _) (Nat.zero_add _) va_S.rf hP hl
theorem K_mono {G : Gx} {y : MethodName} {cc : ByteArray} {nL : Nat} {ret : Option FieldType} {d mc ms : Nat} {As : List Value} {μ : Mem} {Φ Ψ : Option Value → Mem → Prop} (h : K G y cc nL ret d mc ms As μ Φ) (hi : ∀ v μ', Φ v μ' → Ψ v μ') : K G y cc nL ret d mc ms As μ Ψ := by
  intro l
  intro p e ha hc hk s m args below hf h1 h2 h3
  obtain ⟨k, o, a1, a2, a3, ⟨⟨v, μ', b1, b2, b3⟩, b4⟩, b5⟩ := h l p e ha hc hk s m args below hf h1 h2 h3
  exact ⟨k, o, a1, a2, a3, ⟨⟨v, μ', b1, hi v μ' b2, b3⟩, b4⟩, b5⟩
section JR
variable {G : Gx} {y : MethodName} {cc : ByteArray} {nL : Nat} {ret : Option FieldType} {d kc ks : Nat} {Φ : Option Value → Mem → Prop} {pc : Nat} {lv : List (Nat × Value)} {st : List Value} {μ : Mem}
theorem lv_g {ls : Array Slot} {i : Nat} {v : Value} (hl : lv_has ls nL lv) (h : (i, v) ∈ lv) : ls[i]? = some (.val v) := hl.2.2 (i, v) h
/-- the value of a local -/
def lg : List (Nat × Value) → Nat → Option Value
  | [], _ => none
  | (k, v) :: r, i => if k = i then some v else lg r i
theorem lg_mem : ∀ {lv : List (Nat × Value)} {i : Nat} {v : Value}, lg lv i = some v → (i, v) ∈ lv
  | [], _, _, h => by cases h
  | (k, w) :: r, i, v, h => by
    unfold lg at h
    split at h
    · rename_i q
      cases h
      subst q
      exact List.mem_cons_self
    · exact List.mem_cons_of_mem _ (lg_mem h)
theorem J.sub {lv' : List (Nat × Value)} (hs : ∀ q ∈ lv', q ∈ lv) (k : J G y cc nL ret d kc ks Φ pc lv' st μ) : J G y cc nL ret d kc ks Φ pc lv st μ :=
  fun p l e s m args below meth c H locs cells slots mc ms ls C h1 h2 hS hW hl => k p l e s m args below meth c H locs cells slots mc ms ls C h1 h2 hS hW ⟨hl.1, hl.2.1, fun q hq => hl.2.2 q (hs q hq)⟩
theorem J.fewer {kc' ks' : Nat} (h1 : kc' ≤ kc) (h2 : ks' ≤ ks) (k : J G y cc nL ret d kc' ks' Φ pc lv st μ) : J G y cc nL ret d kc ks Φ pc lv st μ :=
  fun p l e s m args below meth c H locs cells slots mc ms ls C g1 g2 hS hW hl => W.widen (k := cells + (kc - kc')) (n := slots + (ks - ks')) (by omega) (by omega) (k p l e s m args below meth c H locs _ _ mc ms ls C (by omega) (by omega) hS hW hl)
theorem J_iadd {x1 x2 : Int32} (hdg : decode cc pc = .ok (.iadd, 1)) (k : J G y cc nL ret d kc ks Φ (pc + 1) lv (.int (x1 + x2) :: st) μ) : J G y cc nL ret d kc ks Φ pc lv (.int x2 :: .int x1 :: st) μ :=
  fun p l e s m args below meth c H locs cells slots mc ms ls C h1 h2 hS hW hl => lv_iadd C.1 C.2.1 hdg (k p l e s m args below meth c H locs cells slots mc ms ls C h1 h2 hS hW hl)
theorem J_isub {x1 x2 : Int32} (hdg : decode cc pc = .ok (.isub, 1)) (k : J G y cc nL ret d kc ks Φ (pc + 1) lv (.int (x1 - x2) :: st) μ) : J G y cc nL ret d kc ks Φ pc lv (.int x2 :: .int x1 :: st) μ :=
  fun p l e s m args below meth c H locs cells slots mc ms ls C h1 h2 hS hW hl => lv_isub C.1 C.2.1 hdg (k p l e s m args below meth c H locs cells slots mc ms ls C h1 h2 hS hW hl)
theorem J_imul {x1 x2 : Int32} (hdg : decode cc pc = .ok (.imul, 1)) (k : J G y cc nL ret d kc ks Φ (pc + 1) lv (.int (x1 * x2) :: st) μ) : J G y cc nL ret d kc ks Φ pc lv (.int x2 :: .int x1 :: st) μ :=
  fun p l e s m args below meth c H locs cells slots mc ms ls C h1 h2 hS hW hl => lv_imul C.1 C.2.1 hdg (k p l e s m args below meth c H locs cells slots mc ms ls C h1 h2 hS hW hl)
theorem J_iand {x1 x2 : Int32} (hdg : decode cc pc = .ok (.iand, 1)) (k : J G y cc nL ret d kc ks Φ (pc + 1) lv (.int (x1 &&& x2) :: st) μ) : J G y cc nL ret d kc ks Φ pc lv (.int x2 :: .int x1 :: st) μ :=
  fun p l e s m args below meth c H locs cells slots mc ms ls C h1 h2 hS hW hl => lv_iand C.1 C.2.1 hdg (k p l e s m args below meth c H locs cells slots mc ms ls C h1 h2 hS hW hl)
theorem J_ior {x1 x2 : Int32} (hdg : decode cc pc = .ok (.ior, 1)) (k : J G y cc nL ret d kc ks Φ (pc + 1) lv (.int (x1 ||| x2) :: st) μ) : J G y cc nL ret d kc ks Φ pc lv (.int x2 :: .int x1 :: st) μ :=
  fun p l e s m args below meth c H locs cells slots mc ms ls C h1 h2 hS hW hl => lv_ior C.1 C.2.1 hdg (k p l e s m args below meth c H locs cells slots mc ms ls C h1 h2 hS hW hl)
theorem J_ishl {x1 x2 : Int32} (hdg : decode cc pc = .ok (.ishl, 1)) (k : J G y cc nL ret d kc ks Φ (pc + 1) lv (.int (x1 <<< (x2 &&& 31)) :: st) μ) : J G y cc nL ret d kc ks Φ pc lv (.int x2 :: .int x1 :: st) μ :=
  fun p l e s m args below meth c H locs cells slots mc ms ls C h1 h2 hS hW hl => lv_ishl C.1 C.2.1 hdg (k p l e s m args below meth c H locs cells slots mc ms ls C h1 h2 hS hW hl)
theorem J_idiv {x1 x2 : Int32} (hdg : decode cc pc = .ok (.idiv, 1)) (hne : ¬ x2 = 0) (k : J G y cc nL ret d kc ks Φ (pc + 1) lv (.int (x1 / x2) :: st) μ) : J G y cc nL ret d kc ks Φ pc lv (.int x2 :: .int x1 :: st) μ :=
  fun p l e s m args below meth c H locs cells slots mc ms ls C h1 h2 hS hW hl => lv_idiv C.1 C.2.1 hdg hne (k p l e s m args below meth c H locs cells slots mc ms ls C h1 h2 hS hW hl)
theorem J_irem {x1 x2 : Int32} (hdg : decode cc pc = .ok (.irem, 1)) (hne : ¬ x2 = 0) (k : J G y cc nL ret d kc ks Φ (pc + 1) lv (.int (x1 - x1 / x2 * x2) :: st) μ) : J G y cc nL ret d kc ks Φ pc lv (.int x2 :: .int x1 :: st) μ :=
  fun p l e s m args below meth c H locs cells slots mc ms ls C h1 h2 hS hW hl => lv_irem C.1 C.2.1 hdg hne (k p l e s m args below meth c H locs cells slots mc ms ls C h1 h2 hS hW hl)
theorem J_ineg {x1 : Int32} (hdg : decode cc pc = .ok (.ineg, 1)) (k : J G y cc nL ret d kc ks Φ (pc + 1) lv (.int (-x1) :: st) μ) : J G y cc nL ret d kc ks Φ pc lv (.int x1 :: st) μ :=
  fun p l e s m args below meth c H locs cells slots mc ms ls C h1 h2 hS hW hl => lv_ineg C.1 C.2.1 hdg (k p l e s m args below meth c H locs cells slots mc ms ls C h1 h2 hS hW hl)
theorem J_ladd {x1 x2 : Int64} (hdg : decode cc pc = .ok (.ladd, 1)) (k : J G y cc nL ret d kc ks Φ (pc + 1) lv (.long (x1 + x2) :: st) μ) : J G y cc nL ret d kc ks Φ pc lv (.long x2 :: .long x1 :: st) μ :=
  fun p l e s m args below meth c H locs cells slots mc ms ls C h1 h2 hS hW hl => lv_ladd C.1 C.2.1 hdg (k p l e s m args below meth c H locs cells slots mc ms ls C h1 h2 hS hW hl)
theorem J_lsub {x1 x2 : Int64} (hdg : decode cc pc = .ok (.lsub, 1)) (k : J G y cc nL ret d kc ks Φ (pc + 1) lv (.long (x1 - x2) :: st) μ) : J G y cc nL ret d kc ks Φ pc lv (.long x2 :: .long x1 :: st) μ :=
  fun p l e s m args below meth c H locs cells slots mc ms ls C h1 h2 hS hW hl => lv_lsub C.1 C.2.1 hdg (k p l e s m args below meth c H locs cells slots mc ms ls C h1 h2 hS hW hl)
theorem J_lmul {x1 x2 : Int64} (hdg : decode cc pc = .ok (.lmul, 1)) (k : J G y cc nL ret d kc ks Φ (pc + 1) lv (.long (x1 * x2) :: st) μ) : J G y cc nL ret d kc ks Φ pc lv (.long x2 :: .long x1 :: st) μ :=
  fun p l e s m args below meth c H locs cells slots mc ms ls C h1 h2 hS hW hl => lv_lmul C.1 C.2.1 hdg (k p l e s m args below meth c H locs cells slots mc ms ls C h1 h2 hS hW hl)
theorem J_ldiv {x1 x2 : Int64} (hdg : decode cc pc = .ok (.ldiv, 1)) (hne : ¬ x2 = 0) (k : J G y cc nL ret d kc ks Φ (pc + 1) lv (.long (x1 / x2) :: st) μ) : J G y cc nL ret d kc ks Φ pc lv (.long x2 :: .long x1 :: st) μ :=
  fun p l e s m args below meth c H locs cells slots mc ms ls C h1 h2 hS hW hl => lv_ldiv C.1 C.2.1 hdg hne (k p l e s m args below meth c H locs cells slots mc ms ls C h1 h2 hS hW hl)
theorem J_lrem {x1 x2 : Int64} (hdg : decode cc pc = .ok (.lrem, 1)) (hne : ¬ x2 = 0) (k : J G y cc nL ret d kc ks Φ (pc + 1) lv (.long (x1 - x1 / x2 * x2) :: st) μ) : J G y cc nL ret d kc ks Φ pc lv (.long x2 :: .long x1 :: st) μ :=
  fun p l e s m args below meth c H locs cells slots mc ms ls C h1 h2 hS hW hl => lv_lrem C.1 C.2.1 hdg hne (k p l e s m args below meth c H locs cells slots mc ms ls C h1 h2 hS hW hl)
theorem J_i2l {x1 : Int32} (hdg : decode cc pc = .ok (.i2l, 1)) (k : J G y cc nL ret d kc ks Φ (pc + 1) lv (.long x1.toInt64 :: st) μ) : J G y cc nL ret d kc ks Φ pc lv (.int x1 :: st) μ :=
  fun p l e s m args below meth c H locs cells slots mc ms ls C h1 h2 hS hW hl => lv_i2l C.1 C.2.1 hdg rfl (k p l e s m args below meth c H locs cells slots mc ms ls C h1 h2 hS hW hl)
theorem J_l2i {x1 : Int64} (hdg : decode cc pc = .ok (.l2i, 1)) (k : J G y cc nL ret d kc ks Φ (pc + 1) lv (.int x1.toInt32 :: st) μ) : J G y cc nL ret d kc ks Φ pc lv (.long x1 :: st) μ :=
  fun p l e s m args below meth c H locs cells slots mc ms ls C h1 h2 hS hW hl => lv_l2i C.1 C.2.1 hdg rfl (k p l e s m args below meth c H locs cells slots mc ms ls C h1 h2 hS hW hl)
theorem J_i2b {x1 : Int32} (hdg : decode cc pc = .ok (.i2b, 1)) (k : J G y cc nL ret d kc ks Φ (pc + 1) lv (.int x1.toInt8.toInt32 :: st) μ) : J G y cc nL ret d kc ks Φ pc lv (.int x1 :: st) μ :=
  fun p l e s m args below meth c H locs cells slots mc ms ls C h1 h2 hS hW hl => lv_i2b C.1 C.2.1 hdg rfl (k p l e s m args below meth c H locs cells slots mc ms ls C h1 h2 hS hW hl)
theorem J_i2s {x1 : Int32} (hdg : decode cc pc = .ok (.i2s, 1)) (k : J G y cc nL ret d kc ks Φ (pc + 1) lv (.int x1.toInt16.toInt32 :: st) μ) : J G y cc nL ret d kc ks Φ pc lv (.int x1 :: st) μ :=
  fun p l e s m args below meth c H locs cells slots mc ms ls C h1 h2 hS hW hl => lv_i2s C.1 C.2.1 hdg rfl (k p l e s m args below meth c H locs cells slots mc ms ls C h1 h2 hS hW hl)
theorem J_i2c {x1 : Int32} (hdg : decode cc pc = .ok (.i2c, 1)) (k : J G y cc nL ret d kc ks Φ (pc + 1) lv (.int (x1.toUInt32 % 65536).toInt32 :: st) μ) : J G y cc nL ret d kc ks Φ pc lv (.int x1 :: st) μ :=
  fun p l e s m args below meth c H locs cells slots mc ms ls C h1 h2 hS hW hl => lv_i2c C.1 C.2.1 hdg rfl (k p l e s m args below meth c H locs cells slots mc ms ls C h1 h2 hS hW hl)
theorem J_iushr {x1 x2 : Int32} (hdg : decode cc pc = .ok (.iushr, 1)) (k : J G y cc nL ret d kc ks Φ (pc + 1) lv (.int (x1.toUInt32 >>> (x2.toUInt32 &&& Int32.toUInt32 31)).toInt32 :: st) μ) : J G y cc nL ret d kc ks Φ pc lv (.int x2 :: .int x1 :: st) μ :=
  fun p l e s m args below meth c H locs cells slots mc ms ls C h1 h2 hS hW hl => lv_iushr C.1 C.2.1 hdg rfl (k p l e s m args below meth c H locs cells slots mc ms ls C h1 h2 hS hW hl)
theorem J_lcmp {x1 x2 : Int64} (hdg : decode cc pc = .ok (.lcmp, 1)) (k : J G y cc nL ret d kc ks Φ (pc + 1) lv (.int (lg_cmp x1 x2) :: st) μ) : J G y cc nL ret d kc ks Φ pc lv (.long x2 :: .long x1 :: st) μ :=
  fun p l e s m args below meth c H locs cells slots mc ms ls C h1 h2 hS hW hl => W.lcmp C.1 C.2.1 hdg (k p l e s m args below meth c H locs cells slots mc ms ls C h1 h2 hS hW hl)
theorem J_dup {va : Value} (hdg : decode cc pc = .ok (.dup, 1)) (hva : va.category = 1) (k : J G y cc nL ret d kc ks Φ (pc + 1) lv (va :: va :: st) μ) : J G y cc nL ret d kc ks Φ pc lv (va :: st) μ :=
  fun p l e s m args below meth c H locs cells slots mc ms ls C h1 h2 hS hW hl => lv_dup C.1 C.2.1 hdg hva (k p l e s m args below meth c H locs cells slots mc ms ls C h1 h2 hS hW hl)
theorem J_pop {va : Value} (hdg : decode cc pc = .ok (.pop, 1)) (hva : va.category = 1) (k : J G y cc nL ret d kc ks Φ (pc + 1) lv st μ) : J G y cc nL ret d kc ks Φ pc lv (va :: st) μ :=
  fun p l e s m args below meth c H locs cells slots mc ms ls C h1 h2 hS hW hl => lv_pop C.1 C.2.1 hdg hva (k p l e s m args below meth c H locs cells slots mc ms ls C h1 h2 hS hW hl)
theorem J_iconst {n : Int} {v : Int32} (hdg : decode cc pc = .ok (.iconst n, 1)) (hv : Int32.ofInt n = v) (k : J G y cc nL ret d kc ks Φ (pc + 1) lv (.int v :: st) μ) : J G y cc nL ret d kc ks Φ pc lv st μ :=
  fun p l e s m args below meth c H locs cells slots mc ms ls C h1 h2 hS hW hl => lv_iconst C.1 C.2.1 hdg hv (k p l e s m args below meth c H locs cells slots mc ms ls C h1 h2 hS hW hl)
theorem J_bipush {n : Int} {v : Int32} (hdg : decode cc pc = .ok (.bipush n, 2)) (hv : (Int8.ofInt n).toInt32 = v) (k : J G y cc nL ret d kc ks Φ (pc + 2) lv (.int v :: st) μ) : J G y cc nL ret d kc ks Φ pc lv st μ :=
  fun p l e s m args below meth c H locs cells slots mc ms ls C h1 h2 hS hW hl => lv_bipush C.1 C.2.1 hdg hv (k p l e s m args below meth c H locs cells slots mc ms ls C h1 h2 hS hW hl)
theorem J_sipush {n : Int} {v : Int32} (hdg : decode cc pc = .ok (.sipush n, 3)) (hv : (Int16.ofInt n).toInt32 = v) (k : J G y cc nL ret d kc ks Φ (pc + 3) lv (.int v :: st) μ) : J G y cc nL ret d kc ks Φ pc lv st μ :=
  fun p l e s m args below meth c H locs cells slots mc ms ls C h1 h2 hS hW hl => lv_sipush C.1 C.2.1 hdg hv (k p l e s m args below meth c H locs cells slots mc ms ls C h1 h2 hS hW hl)
theorem J_lconst {n : Fin 2} {v : Int64} (hdg : decode cc pc = .ok (.lconst n, 1)) (hv : Int64.ofNat (n : Nat) = v) (k : J G y cc nL ret d kc ks Φ (pc + 1) lv (.long v :: st) μ) : J G y cc nL ret d kc ks Φ pc lv st μ :=
  fun p l e s m args below meth c H locs cells slots mc ms ls C h1 h2 hS hW hl => lv_lconst C.1 C.2.1 hdg hv (k p l e s m args below meth c H locs cells slots mc ms ls C h1 h2 hS hW hl)
theorem J_null  (hdg : decode cc pc = .ok (.aconst_null, 1)) (k : J G y cc nL ret d kc ks Φ (pc + 1) lv (.null :: st) μ) : J G y cc nL ret d kc ks Φ pc lv st μ :=
  fun p l e s m args below meth c H locs cells slots mc ms ls C h1 h2 hS hW hl => lv_null C.1 C.2.1 hdg (k p l e s m args below meth c H locs cells slots mc ms ls C h1 h2 hS hW hl)
theorem J_ldc {index : Nat} {v : Int32} (hdg : decode cc pc = .ok (.ldc index, 2)) (hw : Cond.constant y.cls index v ∈ TBL) (k : J G y cc nL ret d kc ks Φ (pc + 2) lv (.int v :: st) μ) : J G y cc nL ret d kc ks Φ pc lv st μ :=
  fun p l e s m args below meth c H locs cells slots mc ms ls C h1 h2 hS hW hl => lv_ldc C.1 C.2.1 C.2.2.2.2.2.1 (C.2.2.2.2.1 _ hw) hdg (k p l e s m args below meth c H locs cells slots mc ms ls C h1 h2 hS hW hl)
theorem J_ldcw {index : Nat} {v : Int32} (hdg : decode cc pc = .ok (.ldc_w index, 3)) (hw : Cond.constant y.cls index v ∈ TBL) (k : J G y cc nL ret d kc ks Φ (pc + 3) lv (.int v :: st) μ) : J G y cc nL ret d kc ks Φ pc lv st μ :=
  fun p l e s m args below meth c H locs cells slots mc ms ls C h1 h2 hS hW hl => lv_ldcw C.1 C.2.1 C.2.2.2.2.2.1 (C.2.2.2.2.1 _ hw) hdg (k p l e s m args below meth c H locs cells slots mc ms ls C h1 h2 hS hW hl)
theorem J_ldc2 {index : Nat} {v : Int64} (hdg : decode cc pc = .ok (.ldc2_w index, 3)) (hw : Cond.constantLong y.cls index v ∈ TBL) (k : J G y cc nL ret d kc ks Φ (pc + 3) lv (.long v :: st) μ) : J G y cc nL ret d kc ks Φ pc lv st μ :=
  fun p l e s m args below meth c H locs cells slots mc ms ls C h1 h2 hS hW hl => lv_ldc2 C.1 C.2.1 C.2.2.2.2.2.1 (C.2.2.2.2.1 _ hw) hdg (k p l e s m args below meth c H locs cells slots mc ms ls C h1 h2 hS hW hl)
theorem J_ldcS {index i : Nat} {tx : String} (hdg : decode cc pc = .ok (.ldc index, 2)) (hi : i < 13) (hw : SQ[i]? = some (y.cls, index, tx)) (k : J G y cc nL ret d kc ks Φ (pc + 2) lv (.ref (gK G i) :: st) μ) : J G y cc nL ret d kc ks Φ pc lv st μ :=
  fun p l e s m args below meth c H locs cells slots mc ms ls C h1 h2 hS hW hl => va_ldcS C.1 C.2.1 C.2.2.2.2.2.1 (C.2.2.2.2.2.2.2.2.1.2.2.2.2.2 i hi _ hw) hdg (k p l e s m args below meth c H locs cells slots mc ms ls C h1 h2 hS hW hl)
theorem J_iload_n {k0 : Fin 4} {i : Nat} {x1 : Int32} (hdg : decode cc pc = .ok (.iload_n k0, 1)) (hi : (k0 : Nat) = i) (hv : lg lv i = some (.int x1)) (k : J G y cc nL ret d kc ks Φ (pc + 1) lv (.int x1 :: st) μ) : J G y cc nL ret d kc ks Φ pc lv st μ :=
  fun p l e s m args below meth c H locs cells slots mc ms ls C h1 h2 hS hW hl => lv_iload_n C.1 C.2.1 hdg hi (lv_g hl (lg_mem hv)) (k p l e s m args below meth c H locs cells slots mc ms ls C h1 h2 hS hW hl)
theorem J_iload {i : Nat} {x1 : Int32} (hdg : decode cc pc = .ok (.iload i, 2)) (hv : lg lv i = some (.int x1)) (k : J G y cc nL ret d kc ks Φ (pc + 2) lv (.int x1 :: st) μ) : J G y cc nL ret d kc ks Φ pc lv st μ :=
  fun p l e s m args below meth c H locs cells slots mc ms ls C h1 h2 hS hW hl => lv_iload C.1 C.2.1 hdg (lv_g hl (lg_mem hv)) (k p l e s m args below meth c H locs cells slots mc ms ls C h1 h2 hS hW hl)
theorem J_lload_n {k0 : Fin 4} {i : Nat} {x1 : Int64} (hdg : decode cc pc = .ok (.lload_n k0, 1)) (hi : (k0 : Nat) = i) (hv : lg lv i = some (.long x1)) (k : J G y cc nL ret d kc ks Φ (pc + 1) lv (.long x1 :: st) μ) : J G y cc nL ret d kc ks Φ pc lv st μ :=
  fun p l e s m args below meth c H locs cells slots mc ms ls C h1 h2 hS hW hl => lv_lload_n C.1 C.2.1 hdg hi (lv_g hl (lg_mem hv)) (k p l e s m args below meth c H locs cells slots mc ms ls C h1 h2 hS hW hl)
theorem J_lload {i : Nat} {x1 : Int64} (hdg : decode cc pc = .ok (.lload i, 2)) (hv : lg lv i = some (.long x1)) (k : J G y cc nL ret d kc ks Φ (pc + 2) lv (.long x1 :: st) μ) : J G y cc nL ret d kc ks Φ pc lv st μ :=
  fun p l e s m args below meth c H locs cells slots mc ms ls C h1 h2 hS hW hl => lv_lload C.1 C.2.1 hdg (lv_g hl (lg_mem hv)) (k p l e s m args below meth c H locs cells slots mc ms ls C h1 h2 hS hW hl)
theorem J_aload_n {k0 : Fin 4} {i : Nat} {x1 : Nat} (hdg : decode cc pc = .ok (.aload_n k0, 1)) (hi : (k0 : Nat) = i) (hv : lg lv i = some (.ref x1)) (k : J G y cc nL ret d kc ks Φ (pc + 1) lv (.ref x1 :: st) μ) : J G y cc nL ret d kc ks Φ pc lv st μ :=
  fun p l e s m args below meth c H locs cells slots mc ms ls C h1 h2 hS hW hl => lv_aload_n C.1 C.2.1 hdg hi (lv_g hl (lg_mem hv)) (k p l e s m args below meth c H locs cells slots mc ms ls C h1 h2 hS hW hl)
theorem J_aload {i : Nat} {x1 : Nat} (hdg : decode cc pc = .ok (.aload i, 2)) (hv : lg lv i = some (.ref x1)) (k : J G y cc nL ret d kc ks Φ (pc + 2) lv (.ref x1 :: st) μ) : J G y cc nL ret d kc ks Φ pc lv st μ :=
  fun p l e s m args below meth c H locs cells slots mc ms ls C h1 h2 hS hW hl => lv_aload C.1 C.2.1 hdg (lv_g hl (lg_mem hv)) (k p l e s m args below meth c H locs cells slots mc ms ls C h1 h2 hS hW hl)
theorem J_aload_nN {k0 : Fin 4} {i : Nat} (hdg : decode cc pc = .ok (.aload_n k0, 1)) (hi : (k0 : Nat) = i) (hv : lg lv i = some .null) (k : J G y cc nL ret d kc ks Φ (pc + 1) lv (.null :: st) μ) : J G y cc nL ret d kc ks Φ pc lv st μ :=
  fun p l e s m args below meth c H locs cells slots mc ms ls C h1 h2 hS hW hl => lv_aload_nN C.1 C.2.1 hdg hi (lv_g hl (lg_mem hv)) (k p l e s m args below meth c H locs cells slots mc ms ls C h1 h2 hS hW hl)
theorem J_aloadN {i : Nat} (hdg : decode cc pc = .ok (.aload i, 2)) (hv : lg lv i = some .null) (k : J G y cc nL ret d kc ks Φ (pc + 2) lv (.null :: st) μ) : J G y cc nL ret d kc ks Φ pc lv st μ :=
  fun p l e s m args below meth c H locs cells slots mc ms ls C h1 h2 hS hW hl => lv_aloadN C.1 C.2.1 hdg (lv_g hl (lg_mem hv)) (k p l e s m args below meth c H locs cells slots mc ms ls C h1 h2 hS hW hl)
theorem J_istore_n {k0 : Fin 4} {i : Nat} {x1 : Int32} {lv' : List (Nat × Value)} (hdg : decode cc pc = .ok (.istore_n k0, 1)) (hi : (k0 : Nat) = i) (hn : i < nL) (hlv : (i, .int x1) :: lv.filter (fun q => !(q.1 == i) && !(q.1 + 1 == i && q.2.category == 2)) = lv') (k : J G y cc nL ret d kc ks Φ (pc + 1) lv' st μ) : J G y cc nL ret d kc ks Φ pc lv (.int x1 :: st) μ :=
  fun p l e s m args below meth c H locs cells slots mc ms ls C h1 h2 hS hW hl => lv_istore_n C.1 C.2.1 hdg hi hl hn hlv (fun ls hl => k p l e s m args below meth c H locs cells slots mc ms ls C h1 h2 hS hW hl)
theorem J_istore {i : Nat} {x1 : Int32} {lv' : List (Nat × Value)} (hdg : decode cc pc = .ok (.istore i, 2)) (hn : i < nL) (hlv : (i, .int x1) :: lv.filter (fun q => !(q.1 == i) && !(q.1 + 1 == i && q.2.category == 2)) = lv') (k : J G y cc nL ret d kc ks Φ (pc + 2) lv' st μ) : J G y cc nL ret d kc ks Φ pc lv (.int x1 :: st) μ :=
  fun p l e s m args below meth c H locs cells slots mc ms ls C h1 h2 hS hW hl => lv_istore C.1 C.2.1 hdg hl hn hlv (fun ls hl => k p l e s m args below meth c H locs cells slots mc ms ls C h1 h2 hS hW hl)
theorem J_lstore_n {k0 : Fin 4} {i : Nat} {x1 : Int64} {lv' : List (Nat × Value)} (hdg : decode cc pc = .ok (.lstore_n k0, 1)) (hi : (k0 : Nat) = i) (hn : i + 1 < nL) (hlv : (i, .long x1) :: lv.filter (fun q => !(q.1 == i) && (!(q.1 == i + 1) && !(q.1 + 1 == i && q.2.category == 2))) = lv') (k : J G y cc nL ret d kc ks Φ (pc + 1) lv' st μ) : J G y cc nL ret d kc ks Φ pc lv (.long x1 :: st) μ :=
  fun p l e s m args below meth c H locs cells slots mc ms ls C h1 h2 hS hW hl => lv_lstore_n C.1 C.2.1 hdg hi hl hn hlv (fun ls hl => k p l e s m args below meth c H locs cells slots mc ms ls C h1 h2 hS hW hl)
theorem J_lstore {i : Nat} {x1 : Int64} {lv' : List (Nat × Value)} (hdg : decode cc pc = .ok (.lstore i, 2)) (hn : i + 1 < nL) (hlv : (i, .long x1) :: lv.filter (fun q => !(q.1 == i) && (!(q.1 == i + 1) && !(q.1 + 1 == i && q.2.category == 2))) = lv') (k : J G y cc nL ret d kc ks Φ (pc + 2) lv' st μ) : J G y cc nL ret d kc ks Φ pc lv (.long x1 :: st) μ :=
  fun p l e s m args below meth c H locs cells slots mc ms ls C h1 h2 hS hW hl => lv_lstore C.1 C.2.1 hdg hl hn hlv (fun ls hl => k p l e s m args below meth c H locs cells slots mc ms ls C h1 h2 hS hW hl)
theorem J_astore_n {k0 : Fin 4} {i : Nat} {x1 : Nat} {lv' : List (Nat × Value)} (hdg : decode cc pc = .ok (.astore_n k0, 1)) (hi : (k0 : Nat) = i) (hn : i < nL) (hlv : (i, .ref x1) :: lv.filter (fun q => !(q.1 == i) && !(q.1 + 1 == i && q.2.category == 2)) = lv') (k : J G y cc nL ret d kc ks Φ (pc + 1) lv' st μ) : J G y cc nL ret d kc ks Φ pc lv (.ref x1 :: st) μ :=
  fun p l e s m args below meth c H locs cells slots mc ms ls C h1 h2 hS hW hl => lv_astore_n C.1 C.2.1 hdg hi hl hn hlv (fun ls hl => k p l e s m args below meth c H locs cells slots mc ms ls C h1 h2 hS hW hl)
theorem J_astore {i : Nat} {x1 : Nat} {lv' : List (Nat × Value)} (hdg : decode cc pc = .ok (.astore i, 2)) (hn : i < nL) (hlv : (i, .ref x1) :: lv.filter (fun q => !(q.1 == i) && !(q.1 + 1 == i && q.2.category == 2)) = lv') (k : J G y cc nL ret d kc ks Φ (pc + 2) lv' st μ) : J G y cc nL ret d kc ks Φ pc lv (.ref x1 :: st) μ :=
  fun p l e s m args below meth c H locs cells slots mc ms ls C h1 h2 hS hW hl => lv_astore C.1 C.2.1 hdg hl hn hlv (fun ls hl => k p l e s m args below meth c H locs cells slots mc ms ls C h1 h2 hS hW hl)
theorem J_astore_nN {k0 : Fin 4} {i : Nat} {lv' : List (Nat × Value)} (hdg : decode cc pc = .ok (.astore_n k0, 1)) (hi : (k0 : Nat) = i) (hn : i < nL) (hlv : (i, .null) :: lv.filter (fun q => !(q.1 == i) && !(q.1 + 1 == i && q.2.category == 2)) = lv') (k : J G y cc nL ret d kc ks Φ (pc + 1) lv' st μ) : J G y cc nL ret d kc ks Φ pc lv (.null :: st) μ :=
  fun p l e s m args below meth c H locs cells slots mc ms ls C h1 h2 hS hW hl => lv_astore_nN C.1 C.2.1 hdg hi hl hn hlv (fun ls hl => k p l e s m args below meth c H locs cells slots mc ms ls C h1 h2 hS hW hl)
theorem J_astoreN {i : Nat} {lv' : List (Nat × Value)} (hdg : decode cc pc = .ok (.astore i, 2)) (hn : i < nL) (hlv : (i, .null) :: lv.filter (fun q => !(q.1 == i) && !(q.1 + 1 == i && q.2.category == 2)) = lv') (k : J G y cc nL ret d kc ks Φ (pc + 2) lv' st μ) : J G y cc nL ret d kc ks Φ pc lv (.null :: st) μ :=
  fun p l e s m args below meth c H locs cells slots mc ms ls C h1 h2 hS hW hl => lv_astoreN C.1 C.2.1 hdg hl hn hlv (fun ls hl => k p l e s m args below meth c H locs cells slots mc ms ls C h1 h2 hS hW hl)
theorem J_iinc {i : Nat} {n : Int} {x1 v : Int32} {lv' : List (Nat × Value)} (hdg : decode cc pc = .ok (.iinc i n, 3)) (hx : lg lv i = some (.int x1)) (hv : x1 + Int32.ofInt n = v) (hn : i < nL) (hlv : (i, Value.int v) :: lv.filter (fun q => !(q.1 == i) && !(q.1 + 1 == i && q.2.category == 2)) = lv') (k : J G y cc nL ret d kc ks Φ (pc + 3) lv' st μ) : J G y cc nL ret d kc ks Φ pc lv st μ := by
  intro p l e s m args below meth c H locs cells slots mc ms ls C h1 h2 hS hW hl
  obtain ⟨k0, hk0⟩ := List.getElem?_of_mem (lg_mem hx)
  exact lv_iinc C.1 C.2.1 hdg hl hk0 hv hn hlv (fun ls hl => k p l e s m args below meth c H locs cells slots mc ms ls C h1 h2 hS hW hl)
theorem J_icmp_eq {x1 x2 : Int32} {off : Int} {tgt : Nat} (hdg : decode cc pc = .ok (.if_icmp .eq off, 3)) (ht : (pc : Int) + off = (tgt : Int)) (kt : x1 = x2 → J G y cc nL ret d kc ks Φ tgt lv st μ) (kf : ¬ x1 = x2 → J G y cc nL ret d kc ks Φ (pc + 3) lv st μ) : J G y cc nL ret d kc ks Φ pc lv (.int x2 :: .int x1 :: st) μ :=
  fun p l e s m args below meth c H locs cells slots mc ms ls C h1 h2 hS hW hl => lv_icmp_eq C.1 C.2.1 hdg ht (fun q => kt q p l e s m args below meth c H locs cells slots mc ms ls C h1 h2 hS hW hl) (fun q => kf q p l e s m args below meth c H locs cells slots mc ms ls C h1 h2 hS hW hl)
theorem J_if_eq {x1 : Int32} {off : Int} {tgt : Nat} (hdg : decode cc pc = .ok (.ifCond .eq off, 3)) (ht : (pc : Int) + off = (tgt : Int)) (kt : x1 = 0 → J G y cc nL ret d kc ks Φ tgt lv st μ) (kf : ¬ x1 = 0 → J G y cc nL ret d kc ks Φ (pc + 3) lv st μ) : J G y cc nL ret d kc ks Φ pc lv (.int x1 :: st) μ :=
  fun p l e s m args below meth c H locs cells slots mc ms ls C h1 h2 hS hW hl => lv_if_eq C.1 C.2.1 hdg ht (fun q => kt q p l e s m args below meth c H locs cells slots mc ms ls C h1 h2 hS hW hl) (fun q => kf q p l e s m args below meth c H locs cells slots mc ms ls C h1 h2 hS hW hl)
theorem J_icmp_ne {x1 x2 : Int32} {off : Int} {tgt : Nat} (hdg : decode cc pc = .ok (.if_icmp .ne off, 3)) (ht : (pc : Int) + off = (tgt : Int)) (kt : ¬ x1 = x2 → J G y cc nL ret d kc ks Φ tgt lv st μ) (kf : x1 = x2 → J G y cc nL ret d kc ks Φ (pc + 3) lv st μ) : J G y cc nL ret d kc ks Φ pc lv (.int x2 :: .int x1 :: st) μ :=
  fun p l e s m args below meth c H locs cells slots mc ms ls C h1 h2 hS hW hl => lv_icmp_ne C.1 C.2.1 hdg ht (fun q => kt q p l e s m args below meth c H locs cells slots mc ms ls C h1 h2 hS hW hl) (fun q => kf q p l e s m args below meth c H locs cells slots mc ms ls C h1 h2 hS hW hl)
theorem J_if_ne {x1 : Int32} {off : Int} {tgt : Nat} (hdg : decode cc pc = .ok (.ifCond .ne off, 3)) (ht : (pc : Int) + off = (tgt : Int)) (kt : ¬ x1 = 0 → J G y cc nL ret d kc ks Φ tgt lv st μ) (kf : x1 = 0 → J G y cc nL ret d kc ks Φ (pc + 3) lv st μ) : J G y cc nL ret d kc ks Φ pc lv (.int x1 :: st) μ :=
  fun p l e s m args below meth c H locs cells slots mc ms ls C h1 h2 hS hW hl => lv_if_ne C.1 C.2.1 hdg ht (fun q => kt q p l e s m args below meth c H locs cells slots mc ms ls C h1 h2 hS hW hl) (fun q => kf q p l e s m args below meth c H locs cells slots mc ms ls C h1 h2 hS hW hl)
theorem J_icmp_lt {x1 x2 : Int32} {off : Int} {tgt : Nat} (hdg : decode cc pc = .ok (.if_icmp .lt off, 3)) (ht : (pc : Int) + off = (tgt : Int)) (kt : x1 < x2 → J G y cc nL ret d kc ks Φ tgt lv st μ) (kf : ¬ x1 < x2 → J G y cc nL ret d kc ks Φ (pc + 3) lv st μ) : J G y cc nL ret d kc ks Φ pc lv (.int x2 :: .int x1 :: st) μ :=
  fun p l e s m args below meth c H locs cells slots mc ms ls C h1 h2 hS hW hl => lv_icmp_lt C.1 C.2.1 hdg ht (fun q => kt q p l e s m args below meth c H locs cells slots mc ms ls C h1 h2 hS hW hl) (fun q => kf q p l e s m args below meth c H locs cells slots mc ms ls C h1 h2 hS hW hl)
theorem J_if_lt {x1 : Int32} {off : Int} {tgt : Nat} (hdg : decode cc pc = .ok (.ifCond .lt off, 3)) (ht : (pc : Int) + off = (tgt : Int)) (kt : x1 < 0 → J G y cc nL ret d kc ks Φ tgt lv st μ) (kf : ¬ x1 < 0 → J G y cc nL ret d kc ks Φ (pc + 3) lv st μ) : J G y cc nL ret d kc ks Φ pc lv (.int x1 :: st) μ :=
  fun p l e s m args below meth c H locs cells slots mc ms ls C h1 h2 hS hW hl => lv_if_lt C.1 C.2.1 hdg ht (fun q => kt q p l e s m args below meth c H locs cells slots mc ms ls C h1 h2 hS hW hl) (fun q => kf q p l e s m args below meth c H locs cells slots mc ms ls C h1 h2 hS hW hl)
theorem J_icmp_ge {x1 x2 : Int32} {off : Int} {tgt : Nat} (hdg : decode cc pc = .ok (.if_icmp .ge off, 3)) (ht : (pc : Int) + off = (tgt : Int)) (kt : x2 ≤ x1 → J G y cc nL ret d kc ks Φ tgt lv st μ) (kf : ¬ x2 ≤ x1 → J G y cc nL ret d kc ks Φ (pc + 3) lv st μ) : J G y cc nL ret d kc ks Φ pc lv (.int x2 :: .int x1 :: st) μ :=
  fun p l e s m args below meth c H locs cells slots mc ms ls C h1 h2 hS hW hl => lv_icmp_ge C.1 C.2.1 hdg ht (fun q => kt q p l e s m args below meth c H locs cells slots mc ms ls C h1 h2 hS hW hl) (fun q => kf q p l e s m args below meth c H locs cells slots mc ms ls C h1 h2 hS hW hl)
theorem J_if_ge {x1 : Int32} {off : Int} {tgt : Nat} (hdg : decode cc pc = .ok (.ifCond .ge off, 3)) (ht : (pc : Int) + off = (tgt : Int)) (kt : 0 ≤ x1 → J G y cc nL ret d kc ks Φ tgt lv st μ) (kf : ¬ 0 ≤ x1 → J G y cc nL ret d kc ks Φ (pc + 3) lv st μ) : J G y cc nL ret d kc ks Φ pc lv (.int x1 :: st) μ :=
  fun p l e s m args below meth c H locs cells slots mc ms ls C h1 h2 hS hW hl => lv_if_ge C.1 C.2.1 hdg ht (fun q => kt q p l e s m args below meth c H locs cells slots mc ms ls C h1 h2 hS hW hl) (fun q => kf q p l e s m args below meth c H locs cells slots mc ms ls C h1 h2 hS hW hl)
theorem J_icmp_gt {x1 x2 : Int32} {off : Int} {tgt : Nat} (hdg : decode cc pc = .ok (.if_icmp .gt off, 3)) (ht : (pc : Int) + off = (tgt : Int)) (kt : x2 < x1 → J G y cc nL ret d kc ks Φ tgt lv st μ) (kf : ¬ x2 < x1 → J G y cc nL ret d kc ks Φ (pc + 3) lv st μ) : J G y cc nL ret d kc ks Φ pc lv (.int x2 :: .int x1 :: st) μ :=
  fun p l e s m args below meth c H locs cells slots mc ms ls C h1 h2 hS hW hl => lv_icmp_gt C.1 C.2.1 hdg ht (fun q => kt q p l e s m args below meth c H locs cells slots mc ms ls C h1 h2 hS hW hl) (fun q => kf q p l e s m args below meth c H locs cells slots mc ms ls C h1 h2 hS hW hl)
theorem J_if_gt {x1 : Int32} {off : Int} {tgt : Nat} (hdg : decode cc pc = .ok (.ifCond .gt off, 3)) (ht : (pc : Int) + off = (tgt : Int)) (kt : 0 < x1 → J G y cc nL ret d kc ks Φ tgt lv st μ) (kf : ¬ 0 < x1 → J G y cc nL ret d kc ks Φ (pc + 3) lv st μ) : J G y cc nL ret d kc ks Φ pc lv (.int x1 :: st) μ :=
  fun p l e s m args below meth c H locs cells slots mc ms ls C h1 h2 hS hW hl => lv_if_gt C.1 C.2.1 hdg ht (fun q => kt q p l e s m args below meth c H locs cells slots mc ms ls C h1 h2 hS hW hl) (fun q => kf q p l e s m args below meth c H locs cells slots mc ms ls C h1 h2 hS hW hl)
theorem J_icmp_le {x1 x2 : Int32} {off : Int} {tgt : Nat} (hdg : decode cc pc = .ok (.if_icmp .le off, 3)) (ht : (pc : Int) + off = (tgt : Int)) (kt : x1 ≤ x2 → J G y cc nL ret d kc ks Φ tgt lv st μ) (kf : ¬ x1 ≤ x2 → J G y cc nL ret d kc ks Φ (pc + 3) lv st μ) : J G y cc nL ret d kc ks Φ pc lv (.int x2 :: .int x1 :: st) μ :=
  fun p l e s m args below meth c H locs cells slots mc ms ls C h1 h2 hS hW hl => lv_icmp_le C.1 C.2.1 hdg ht (fun q => kt q p l e s m args below meth c H locs cells slots mc ms ls C h1 h2 hS hW hl) (fun q => kf q p l e s m args below meth c H locs cells slots mc ms ls C h1 h2 hS hW hl)
theorem J_if_le {x1 : Int32} {off : Int} {tgt : Nat} (hdg : decode cc pc = .ok (.ifCond .le off, 3)) (ht : (pc : Int) + off = (tgt : Int)) (kt : x1 ≤ 0 → J G y cc nL ret d kc ks Φ tgt lv st μ) (kf : ¬ x1 ≤ 0 → J G y cc nL ret d kc ks Φ (pc + 3) lv st μ) : J G y cc nL ret d kc ks Φ pc lv (.int x1 :: st) μ :=
  fun p l e s m args below meth c H locs cells slots mc ms ls C h1 h2 hS hW hl => lv_if_le C.1 C.2.1 hdg ht (fun q => kt q p l e s m args below meth c H locs cells slots mc ms ls C h1 h2 hS hW hl) (fun q => kf q p l e s m args below meth c H locs cells slots mc ms ls C h1 h2 hS hW hl)
theorem J_goto {off : Int} {tgt : Nat} (hdg : decode cc pc = .ok (.goto off, 3)) (ht : (pc : Int) + off = (tgt : Int)) (k : J G y cc nL ret d kc ks Φ tgt lv st μ) : J G y cc nL ret d kc ks Φ pc lv st μ :=
  fun p l e s m args below meth c H locs cells slots mc ms ls C h1 h2 hS hW hl => lv_goto C.1 C.2.1 hdg ht (k p l e s m args below meth c H locs cells slots mc ms ls C h1 h2 hS hW hl)
theorem J_ifnullR {x1 : Nat} {off : Int} (hdg : decode cc pc = .ok (.ifnull off, 3)) (k : J G y cc nL ret d kc ks Φ (pc + 3) lv st μ) : J G y cc nL ret d kc ks Φ pc lv (.ref x1 :: st) μ :=
  fun p l e s m args below meth c H locs cells slots mc ms ls C h1 h2 hS hW hl => lv_ifnull C.1 C.2.1 hdg (k p l e s m args below meth c H locs cells slots mc ms ls C h1 h2 hS hW hl)
theorem J_ifnullN {off : Int} {tgt : Nat} (hdg : decode cc pc = .ok (.ifnull off, 3)) (ht : (pc : Int) + off = (tgt : Int)) (k : J G y cc nL ret d kc ks Φ tgt lv st μ) : J G y cc nL ret d kc ks Φ pc lv (.null :: st) μ :=
  fun p l e s m args below meth c H locs cells slots mc ms ls C h1 h2 hS hW hl => lv_ifnullN C.1 C.2.1 hdg ht (k p l e s m args below meth c H locs cells slots mc ms ls C h1 h2 hS hW hl)
theorem J_ifnonnullR {x1 : Nat} {off : Int} {tgt : Nat} (hdg : decode cc pc = .ok (.ifnonnull off, 3)) (ht : (pc : Int) + off = (tgt : Int)) (k : J G y cc nL ret d kc ks Φ tgt lv st μ) : J G y cc nL ret d kc ks Φ pc lv (.ref x1 :: st) μ :=
  fun p l e s m args below meth c H locs cells slots mc ms ls C h1 h2 hS hW hl => lv_ifnonnull C.1 C.2.1 hdg ht (k p l e s m args below meth c H locs cells slots mc ms ls C h1 h2 hS hW hl)
theorem J_ifnonnullN {off : Int} (hdg : decode cc pc = .ok (.ifnonnull off, 3)) (k : J G y cc nL ret d kc ks Φ (pc + 3) lv st μ) : J G y cc nL ret d kc ks Φ pc lv (.null :: st) μ :=
  fun p l e s m args below meth c H locs cells slots mc ms ls C h1 h2 hS hW hl => lv_ifnonnullN C.1 C.2.1 hdg (k p l e s m args below meth c H locs cells slots mc ms ls C h1 h2 hS hW hl)
theorem J_tabOut {dflt lo hi : Int} {offs : Array Int} {len : Nat} {x1 : Int32} {tgt : Nat} (hdg : decode cc pc = .ok (.tableswitch dflt lo hi offs, len)) (h : x1.toInt < lo ∨ hi < x1.toInt) (ht : (pc : Int) + dflt = (tgt : Int)) (k : J G y cc nL ret d kc ks Φ tgt lv st μ) : J G y cc nL ret d kc ks Φ pc lv (.int x1 :: st) μ :=
  fun p l e s m args below meth c H locs cells slots mc ms ls C h1 h2 hS hW hl => lv_tableOut C.1 C.2.1 hdg h ht (k p l e s m args below meth c H locs cells slots mc ms ls C h1 h2 hS hW hl)
theorem J_tabIn {dflt lo hi : Int} {offs : Array Int} {len : Nat} {x1 : Int32} {off : Int} {tgt : Nat} (v : Int) (hdg : decode cc pc = .ok (.tableswitch dflt lo hi offs, len)) (hx : x1.toInt = v) (hr : ¬ v < lo ∧ ¬ hi < v) (ho : offs[(v - lo).toNat]? = some off) (ht : (pc : Int) + off = (tgt : Int)) (k : J G y cc nL ret d kc ks Φ tgt lv st μ) : J G y cc nL ret d kc ks Φ pc lv (.int x1 :: st) μ :=
  fun p l e s m args below meth c H locs cells slots mc ms ls C h1 h2 hS hW hl => lv_tableIn C.1 C.2.1 hdg (by rw [hx]; exact hr.1) (by rw [hx]; exact hr.2) (by rw [hx]; exact ho) ht (k p l e s m args below meth c H locs cells slots mc ms ls C h1 h2 hS hW hl)
theorem J_iret {x1 : Int32} (hdg : decode cc pc = .ok (.ireturn, 1)) (hr : ret = some .int) (hΦ : Φ (some (.int x1)) μ) : J G y cc nL ret d kc ks Φ pc lv [.int x1] μ := by
  intro p l e s m args below meth c H locs cells slots mc ms ls C h1 h2 hS hW hl
  refine W.widen (k := mc) (n := ms) (by omega) (by omega) ?_
  exact W.iret C.1 C.2.1 (C.2.2.1.trans hr) (fun t ht hWm => ⟨⟨_, μ, rfl, hΦ, by rw [ht]; exact hW⟩, hS.F ht⟩) hS.2.2 hdg C.2.2.2.2.2.2.1
theorem J_zret {x1 : Int32} (hdg : decode cc pc = .ok (.ireturn, 1)) (hr : ret = some .boolean) (hb : x1 = 0 ∨ x1 = 1) (hΦ : Φ (some (.int x1)) μ) : J G y cc nL ret d kc ks Φ pc lv [.int x1] μ := by
  intro p l e s m args below meth c H locs cells slots mc ms ls C h1 h2 hS hW hl
  refine W.widen (k := mc) (n := ms) (by omega) (by omega) ?_
  exact W.zret C.1 C.2.1 (C.2.2.1.trans hr) (by rcases hb with rfl | rfl <;> rfl) (fun t ht hWm => ⟨⟨_, μ, rfl, hΦ, by rw [ht]; exact hW⟩, hS.F ht⟩) hS.2.2 hdg C.2.2.2.2.2.2.1
theorem J_cret {x1 : Int32} {ty : FieldType} (hdg : decode cc pc = .ok (.ireturn, 1)) (hr : ret = some ty) (hn : narrow ty (.int x1) = .int x1) (hΦ : Φ (some (.int x1)) μ) : J G y cc nL ret d kc ks Φ pc lv [.int x1] μ := by
  intro p l e s m args below meth c H locs cells slots mc ms ls C h1 h2 hS hW hl
  refine W.widen (k := mc) (n := ms) (by omega) (by omega) ?_
  exact W.zret C.1 C.2.1 (C.2.2.1.trans hr) hn (fun t ht hWm => ⟨⟨_, μ, rfl, hΦ, by rw [ht]; exact hW⟩, hS.F ht⟩) hS.2.2 hdg C.2.2.2.2.2.2.1
theorem J_lret {x1 : Int64} (hdg : decode cc pc = .ok (.lreturn, 1)) (hr : ret = some .long) (hΦ : Φ (some (.long x1)) μ) : J G y cc nL ret d kc ks Φ pc lv [.long x1] μ := by
  intro p l e s m args below meth c H locs cells slots mc ms ls C h1 h2 hS hW hl
  refine W.widen (k := mc) (n := ms) (by omega) (by omega) ?_
  exact W.lret C.1 C.2.1 (C.2.2.1.trans hr) (fun t ht hWm => ⟨⟨_, μ, rfl, hΦ, by rw [ht]; exact hW⟩, hS.F ht⟩) hS.2.2 hdg C.2.2.2.2.2.2.1
theorem J_vret  (hdg : decode cc pc = .ok (.return_, 1)) (hr : ret = none) (hΦ : Φ none μ) : J G y cc nL ret d kc ks Φ pc lv [] μ := by
  intro p l e s m args below meth c H locs cells slots mc ms ls C h1 h2 hS hW hl
  refine W.widen (k := mc) (n := ms) (by omega) (by omega) ?_
  exact W.vret C.1 C.2.1 (C.2.2.1.trans hr) (fun t ht hWm => ⟨⟨_, μ, rfl, hΦ, by rw [ht]; exact hW⟩, hS.F ht⟩) hS.2.2 hdg C.2.2.2.2.2.2.1
theorem J_aret {v : Value} {n : String} (hdg : decode cc pc = .ok (.areturn, 1)) (hr : ret = some (.object n)) (hv : v = .null ∨ ∃ a, v = .ref a) (hΦ : Φ (some v) μ) : J G y cc nL ret d kc ks Φ pc lv [v] μ := by
  intro p l e s m args below meth c H locs cells slots mc ms ls C h1 h2 hS hW hl
  refine W.widen (k := mc) (n := ms) (by omega) (by omega) ?_
  exact W.aret C.1 C.2.1 (C.2.2.1.trans hr) (Or.inl ⟨n, rfl⟩) hv (fun t ht hWm => ⟨⟨_, μ, rfl, hΦ, by rw [ht]; exact hW⟩, hS.F ht⟩) hS.2.2 hdg C.2.2.2.2.2.2.1
end JR
