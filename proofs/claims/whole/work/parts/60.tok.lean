/-! ===== texts again: over any row of tokens ===== -/
section TV
variable (T : Nat → Tok)
def gOneT (can : Bool) (o1 e1 : PF) : PF := fun i =>
  if (T i).1 = 1 then .inr ([(T i).2.1], fun _ => (T i).2.1, (T i).2.2.2)
  else if (T i).1 = 2 then .inr ([(T i).2.1], fun nm => nm (-1 - (T i).2.1).toNatClampNeg, (T i).2.2.2)
  else if (T i).1 = 45 then (if can = true then pBind (o1 (T i).2.2.2) (fun c d j => .inr (c ++ [-8], fun nm => - d nm, j)) else .inl (T i).2.2.1)
  else if (T i).1 = 40 then (if can = true then pBind (e1 (T i).2.2.2) (fun c d j => if (T j).1 = 41 then .inr (c, d, (T j).2.2.2) else .inl (T j).2.2.1) else .inl (T i).2.2.1)
  else .inl (T i).2.2.1
def gLoopT (ops : Int32 → Option (Int32 × (Int32 → Int32 → Int32))) (sub : PF) : Nat → List Int32 → (Nms → Int32) → Nat → PR
  | 0, c, d, i => .inr (c, d, i)
  | k + 1, c, d, i => match ops (T i).1 with
    | none => .inr (c, d, i)
    | some o => pBind (sub (T i).2.2.2) (fun c2 d2 j => gLoopT ops sub k (c ++ c2 ++ [o.1]) (fun nm => o.2 (d nm) (d2 nm)) j)
def gTermT (one : PF) : PF := fun i => pBind (one i) (gLoopT T oMul one 160)
def gSumT (one : PF) : PF := fun i => pBind (gTermT T one i) (gLoopT T oAdd (gTermT T one) 160)
def gNotT (can : Bool) (n1 one : PF) : PF := fun i =>
  if (T i).1 = 8 then (if can = true then pBind (n1 (T i).2.2.2) (fun c d j => .inr (c ++ [-7], fun nm => b2 (d nm = 0), j)) else .inl (T i).2.2.1)
  else pBind (gSumT T one i) (fun c d j => match oCmp (T j).1 with
    | none => .inr (c, d, j)
    | some o => pBind (gSumT T one (T j).2.2.2) (fun c2 d2 j2 => .inr (c ++ c2 ++ [o.1], fun nm => o.2 (d nm) (d2 nm), j2)))
def gBothT (nt : PF) : PF := fun i => pBind (nt i) (gLoopT T oAnd nt 160)
def gEitherT (nt : PF) : PF := fun i => pBind (gBothT T nt i) (gLoopT T oOr (gBothT T nt) 160)
def levT : Nat → PF × PF × PF
  | 0 => (gOneT T false pNo pNo, gNotT T false pNo (gOneT T false pNo pNo), gEitherT T (gNotT T false pNo (gOneT T false pNo pNo)))
  | f + 1 => (gOneT T true (levT f).1 (levT f).2.2, gNotT T true (levT f).2.1 (gOneT T true (levT f).1 (levT f).2.2), gEitherT T (gNotT T true (levT f).2.1 (gOneT T true (levT f).1 (levT f).2.2)))
def gPartT (key : Int32) : PF := fun i =>
  if (T i).1 = key then pBind ((levT T 5).2.2 (T i).2.2.2) (fun c d j => if (T j).1 = 59 then .inr (c, d, (T j).2.2.2) else .inl (T j).2.2.1)
  else .inl (T i).2.2.1
def gTextT : Nat ⊕ ((List Int32 × List Int32 × List Int32) × (Nms → Int32) × (Nms → Int32) × (Nms → Int32)) :=
  match gPartT T 3 0 with
  | .inl k => .inl k
  | .inr (c0, d0, i0) => match gPartT T 4 i0 with
    | .inl k => .inl k
    | .inr (c1, d1, i1) => match gPartT T 5 i1 with
      | .inl k => .inl k
      | .inr (c2, d2, i2) => if (T i2).1 = 0 then .inr ((c0, c1, c2), d0, d1, d2) else .inl (T i2).2.2.1
end TV
section TE
variable {b b' : Nat → Int32} {n : Nat}
theorem gOneT_e {can : Bool} {o1 e1 : PF} : gOne b n can o1 e1 = gOneT (tok b n) can o1 e1 := rfl
theorem gLoopT_e {ops : Int32 → Option (Int32 × (Int32 → Int32 → Int32))} {sub : PF} : ∀ (k : Nat) (c : List Int32) (d : Nms → Int32) (i : Nat), gLoop b n ops sub k c d i = gLoopT (tok b n) ops sub k c d i := by
  intro k
  induction k with
  | zero => intro c d i; rfl
  | succ k ih =>
    intro c d i
    unfold gLoop gLoopT
    cases ops (tok b n i).1 with
    | none => rfl
    | some o =>
      show pBind _ _ = pBind _ _
      congr 1
      funext c2 d2 j
      exact ih _ _ _
theorem gLoopT_f {ops : Int32 → Option (Int32 × (Int32 → Int32 → Int32))} {sub : PF} {k : Nat} : gLoop b n ops sub k = gLoopT (tok b n) ops sub k := funext fun c => funext fun d => funext fun i => gLoopT_e k c d i
theorem gTermT_e {one : PF} : gTerm b n one = gTermT (tok b n) one := by unfold gTerm gTermT; rw [gLoopT_f]
theorem gSumT_e {one : PF} : gSum b n one = gSumT (tok b n) one := by unfold gSum gSumT; rw [gLoopT_f, gTermT_e]
theorem gNotT_e {can : Bool} {n1 one : PF} : gNot b n can n1 one = gNotT (tok b n) can n1 one := by unfold gNot gNotT; rw [gSumT_e]; rfl
theorem gBothT_e {nt : PF} : gBoth b n nt = gBothT (tok b n) nt := by unfold gBoth gBothT; rw [gLoopT_f]
theorem gEitherT_e {nt : PF} : gEither b n nt = gEitherT (tok b n) nt := by unfold gEither gEitherT; rw [gLoopT_f, gBothT_e]
theorem levT_e : ∀ f, lev b n f = levT (tok b n) f := by
  intro f
  induction f with
  | zero => show (_, _, _) = (_, _, _); rw [gNotT_e, gEitherT_e, gOneT_e]
  | succ f ih =>
    show (gOne b n true (lev b n f).1 (lev b n f).2.2, gNot b n true (lev b n f).2.1 (gOne b n true (lev b n f).1 (lev b n f).2.2), gEither b n (gNot b n true (lev b n f).2.1 (gOne b n true (lev b n f).1 (lev b n f).2.2))) = _
    rw [ih, gNotT_e, gEitherT_e, gOneT_e]
    rfl
theorem gPartT_e {key : Int32} : gPart b n key = gPartT (tok b n) key := by unfold gPart gPartT; rw [levT_e]
theorem gTextT_e : gText b n = gTextT (tok b n) := by unfold gText gTextT; rw [gPartT_e, gPartT_e, gPartT_e]; rfl
end TE
/-! the bytes behind the end don't count -/
section CG
variable {b b' : Nat → Int32} {n : Nat}
theorem bt_cong (h : ∀ i, i < n → b i = b' i) : bt b n = bt b' n := by
  funext i
  unfold bt
  split
  · exact h i (by assumption)
  · rfl
theorem run_cong {p : Int32 → Prop} [DecidablePred p] (h : ∀ i, i < n → b i = b' i) : ∀ k i, runTo b n p k i = runTo b' n p k i := by
  intro k
  induction k with
  | zero => intro i; rfl
  | succ k ih =>
    intro i
    unfold runTo
    rw [bt_cong h, ih]
theorem wq_cong {s e : Nat} {l : List Int32} (h : ∀ i, i < n → b i = b' i) (he : e ≤ n) : wq b s e l ↔ wq b' s e l := by
  refine and_congr_right fun h1 => ?_
  constructor
  · intro z i hi; rw [← h _ (by omega)]; exact z i hi
  · intro z i hi; rw [h _ (by omega)]; exact z i hi
theorem wname_cong {s e : Nat} (h : ∀ i, i < n → b i = b' i) (he : e ≤ n) : wname b s e = wname b' s e := by
  have e1 : wq b s e = wq b' s e := funext fun l => propext (wq_cong h he)
  unfold wname
  rw [e1]
theorem wkey_cong {s e : Nat} (h : ∀ i, i < n → b i = b' i) (he : e ≤ n) : wkey b s e = wkey b' s e := by
  have e1 : wq b s e = wq b' s e := funext fun l => propext (wq_cong h he)
  unfold wkey
  rw [e1]
theorem dgs_cong {s : Nat} (h : ∀ i, i < n → b i = b' i) : ∀ k, s + k ≤ n → dgs b s k = dgs b' s k := by
  intro k
  induction k with
  | zero => intro _; rfl
  | succ k ih =>
    intro hk
    show dgs b s k * 10 + b (s + k) - 48 = dgs b' s k * 10 + b' (s + k) - 48
    rw [ih (by omega), h _ (by omega)]
theorem tok_cong (h : ∀ i, i < n → b i = b' i) : tok b n = tok b' n := by
  funext i
  have eB : skB b n i = skB b' n i := run_cong h _ _
  have eL : ∀ i, skL b n i = skL b' n i := fun i => run_cong h _ _
  have eD : ∀ i, skD b n i = skD b' n i := fun i => run_cong h _ _
  by_cases hs : n ≤ skB b n i
  · rw [tok_end hs, tok_end (eB ▸ hs), eB]
  · have hs : skB b n i < n := Nat.not_le.mp hs
    unfold tok
    have hL : skL b n (skB b n i) ≤ n := run_le (Nat.le_of_lt hs)
    rw [← eB, ← eL, ← eD, ← h _ hs, wname_cong h hL, wkey_cong h hL]
    rw [dgs_cong (b' := b') h _ (by have h1 : skB b n i ≤ skD b n (skB b n i) := run_ge; have h2 : skD b n (skB b n i) ≤ n := run_le (Nat.le_of_lt hs); omega)]
theorem gText_cong (h : ∀ i, i < n → b i = b' i) : gText b n = gText b' n := by rw [gTextT_e, gTextT_e, tok_cong h]
theorem TXT_cong {E : RuleF} (h : ∀ i, i < n → b i = b' i) (t : TXT b n E) : TXT b' n E := by
  obtain ⟨h1, h2⟩ := t
  refine ⟨fun i hi => by rw [← h i hi]; exact h1 i hi, ?_⟩
  rw [← gText_cong h]
  exact h2
end CG
/-! the tokens, to be reckoned -/
def wqC (b : Nat → Int32) (s e : Nat) (l : List Int32) : Bool := (e - s == l.length) && (List.range l.length).all (fun i => b (s + i) == l.getD i 0)
theorem wqC_e {b : Nat → Int32} {s e : Nat} {l : List Int32} : wqC b s e l = true ↔ wq b s e l := by
  unfold wqC wq
  simp only [Bool.and_eq_true, beq_iff_eq, List.all_eq_true, List.mem_range]
def wnameC (b : Nat → Int32) (s e : Nat) : Int32 := if wqC b s e wFar = true then -1 else if wqC b s e wWarm = true then -2 else if wqC b s e wLegs = true then -3 else if wqC b s e wQuick = true then -4 else if wqC b s e wNumber = true then -5 else if wqC b s e wCell = true then -6 else 0
def wkeyC (b : Nat → Int32) (s e : Nat) : Int32 := if wqC b s e wFlies = true then 3 else if wqC b s e wSteps = true then 4 else if wqC b s e wSlips = true then 5 else if wqC b s e wOr = true then 6 else if wqC b s e wAnd = true then 7 else if wqC b s e wNot = true then 8 else 9
theorem wnameC_e {b : Nat → Int32} {s e : Nat} : wname b s e = wnameC b s e := by
  unfold wname wnameC
  by_cases h0 : wq b s e wFar
  · rw [if_pos h0, if_pos (wqC_e.mpr h0)]
  rw [if_neg h0, if_neg (fun z => h0 (wqC_e.mp z))]
  by_cases h1 : wq b s e wWarm
  · rw [if_pos h1, if_pos (wqC_e.mpr h1)]
  rw [if_neg h1, if_neg (fun z => h1 (wqC_e.mp z))]
  by_cases h2 : wq b s e wLegs
  · rw [if_pos h2, if_pos (wqC_e.mpr h2)]
  rw [if_neg h2, if_neg (fun z => h2 (wqC_e.mp z))]
  by_cases h3 : wq b s e wQuick
  · rw [if_pos h3, if_pos (wqC_e.mpr h3)]
  rw [if_neg h3, if_neg (fun z => h3 (wqC_e.mp z))]
  by_cases h4 : wq b s e wNumber
  · rw [if_pos h4, if_pos (wqC_e.mpr h4)]
  rw [if_neg h4, if_neg (fun z => h4 (wqC_e.mp z))]
  by_cases h5 : wq b s e wCell
  · rw [if_pos h5, if_pos (wqC_e.mpr h5)]
  rw [if_neg h5, if_neg (fun z => h5 (wqC_e.mp z))]
theorem wkeyC_e {b : Nat → Int32} {s e : Nat} : wkey b s e = wkeyC b s e := by
  unfold wkey wkeyC
  by_cases h0 : wq b s e wFlies
  · rw [if_pos h0, if_pos (wqC_e.mpr h0)]
  rw [if_neg h0, if_neg (fun z => h0 (wqC_e.mp z))]
  by_cases h1 : wq b s e wSteps
  · rw [if_pos h1, if_pos (wqC_e.mpr h1)]
  rw [if_neg h1, if_neg (fun z => h1 (wqC_e.mp z))]
  by_cases h2 : wq b s e wSlips
  · rw [if_pos h2, if_pos (wqC_e.mpr h2)]
  rw [if_neg h2, if_neg (fun z => h2 (wqC_e.mp z))]
  by_cases h3 : wq b s e wOr
  · rw [if_pos h3, if_pos (wqC_e.mpr h3)]
  rw [if_neg h3, if_neg (fun z => h3 (wqC_e.mp z))]
  by_cases h4 : wq b s e wAnd
  · rw [if_pos h4, if_pos (wqC_e.mpr h4)]
  rw [if_neg h4, if_neg (fun z => h4 (wqC_e.mp z))]
  by_cases h5 : wq b s e wNot
  · rw [if_pos h5, if_pos (wqC_e.mpr h5)]
  rw [if_neg h5, if_neg (fun z => h5 (wqC_e.mp z))]
def tokC (b : Nat → Int32) (n i : Nat) : Tok :=
  if n ≤ skB b n i then (0, 0, skB b n i, skB b n i)
  else if isLt (b (skB b n i)) then
    (if wnameC b (skB b n i) (skL b n (skB b n i)) = 0 then (wkeyC b (skB b n i) (skL b n (skB b n i)), 0, skB b n i, skL b n (skB b n i)) else (2, wnameC b (skB b n i) (skL b n (skB b n i)), skB b n i, skL b n (skB b n i)))
  else if isDg (b (skB b n i)) then
    (if 4 < skD b n (skB b n i) - skB b n i then (9, 0, skB b n i, skD b n (skB b n i)) else (1, dgs b (skB b n i) (skD b n (skB b n i) - skB b n i), skB b n i, skD b n (skB b n i)))
  else if isSg (b (skB b n i)) then (b (skB b n i), 0, skB b n i, skB b n i + 1)
  else (9, 0, skB b n i, skB b n i + 1)
theorem tokC_e {b : Nat → Int32} {n : Nat} : tok b n = tokC b n := by
  funext i
  unfold tok tokC
  rw [wnameC_e, wkeyC_e]
/-- the rule at the start, letter by letter -/
def theRule : List Int32 := [102, 108, 105, 101, 115, 32, 56, 32, 43, 32, 102, 97, 114, 32, 42, 32, 51, 32, 59, 32, 115, 116, 101, 112, 115, 32, 57, 32, 45, 32, 113, 117, 105, 99, 107, 32, 59, 32, 115, 108, 105, 112, 115, 32, 102, 97, 114, 32, 42, 32, 50, 32, 59, 32, 32, 32]
def bRule : Nat → Int32 := fun i => theRule.getD i 0
set_option maxRecDepth 100000 in
theorem gRule_in : (gTextT (tokC bRule 56)).isRight = true := by decide +kernel
/-- what a text says, as a rule -/
def zEf (d0 d1 d2 : Nms → Int32) : RuleF := fun w far warm legs quick number cell => match w with
  | 0 => d0 (nms far warm legs quick number cell)
  | 1 => d1 (nms far warm legs quick number cell)
  | _ => d2 (nms far warm legs quick number cell)
/-- the rule that a text's bytes say; anything where they say none -/
noncomputable def zSay (b : Nat → Int32) (n : Nat) : RuleF := match gText b n with
  | .inl _ => fun _ _ _ _ _ _ _ => 0
  | .inr (_, d0, d1, d2) => zEf d0 d1 d2
theorem zSay_cong {b b' : Nat → Int32} {n : Nat} (h : ∀ i, i < n → b i = b' i) : zSay b n = zSay b' n := by unfold zSay; rw [gText_cong h]
theorem TXT_say {b : Nat → Int32} {n : Nat} {cs : List Int32 × List Int32 × List Int32} {d0 d1 d2 : Nms → Int32} (hB : ∀ i, i < n → 0 ≤ (b i).toInt ∧ (b i).toInt ≤ 255) (h : gText b n = .inr (cs, d0, d1, d2)) : TXT b n (zEf d0 d1 d2) :=
  ⟨hB, cs, d0, d1, d2, h, fun w far warm legs quick number cell => rfl⟩
theorem gRule_e : ∃ cs d0 d1 d2, gText bRule 56 = .inr (cs, d0, d1, d2) := by
  have h := gRule_in
  rw [gTextT_e, tokC_e]
  generalize gTextT (tokC bRule 56) = g at h
  rcases g with k | ⟨cs, d0, d1, d2⟩
  · exact absurd h (fun z => Bool.noConfusion z)
  · exact ⟨cs, d0, d1, d2, rfl⟩
theorem bRule_B : ∀ i, i < 56 → 0 ≤ (bRule i).toInt ∧ (bRule i).toInt ≤ 255 := by decide +kernel
/-! ===== text ===== -/
noncomputable def zr_text (A : Abs) : Int32 × Abs :=
  if i2n (A.1 10 0) = 6 then (-4, A) else match gText (A.1 11) (i2n (A.1 12 0)) with
    | .inl q => (-100 - nI q, zUp A 12 0 0)
    | .inr (_, d0, d1, d2) => (nI (i2n (A.1 10 0)), ((zUp (zUp A 12 0 0) 10 0 (nI (i2n (A.1 10 0) + 1))).1, fun i => if i = i2n (A.1 10 0) then zEf d0 d1 d2 else A.2 i))
section TXA
variable {o : Nat} {M M' : Nat → Nat → Int32} {A : Abs} {t m : Nat}
/-- a text is laid behind the others, the tape is empty -/
theorem text_loc (hA : rABS o M A) (h6 : M' o 6 = 0) (hk : ∀ b k, RO o b → ¬ (b = o ∧ k = 6) → ¬ (b = o ∧ 22 ≤ k ∧ k ≤ 30) → ¬ (b = o + 1 ∧ 160 * t ≤ k ∧ k < 160 * t + m) → ¬ (b = o + 2 ∧ k = t) → M' b k = M b k) : ∀ b k x i, LOC o b k x i → M' x i = (zUp A 12 0 0).1 b k := by
  intro b k x i hl
  by_cases e : b = 12 ∧ k = 0
  · obtain ⟨rfl, rfl⟩ := e
    obtain ⟨rfl, rfl⟩ : x = o ∧ i = 6 := by unfold LOC at hl; omega
    rw [h6]; exact zUp_e.symm
  · rw [zUp_n e, hk x i (by unfold LOC at hl; unfold RO; omega) (by unfold LOC at hl; omega) (by unfold LOC at hl; omega) (by unfold LOC at hl; omega) (by unfold LOC at hl; omega)]
    exact hA.loc _ _ _ _ hl
theorem text_old (hA : rABS o M A) (hm : m ≤ 160) (hk : ∀ b k, RO o b → ¬ (b = o ∧ k = 6) → ¬ (b = o ∧ 22 ≤ k ∧ k ≤ 30) → ¬ (b = o + 1 ∧ 160 * t ≤ k ∧ k < 160 * t + m) → ¬ (b = o + 2 ∧ k = t) → M' b k = M b k) {i : Nat} (hi : i < i2n (A.1 10 0)) (hit : i < t) : ∃ l, l ≤ 160 ∧ M' (o + 2) i = nI l ∧ TXT (fun j => M' (o + 1) (160 * i + j)) l (A.2 i) := by
  obtain ⟨l, h1, h2, h3⟩ := hA.tx hi
  refine ⟨l, h1, (hk _ _ (by unfold RO; omega) (by omega) (by omega) (by omega) (by omega)).trans h2, TXT_cong (fun j hj => ?_) h3⟩
  exact (hk _ _ (by unfold RO; omega) (by omega) (by omega) (by omega) (by omega)).symm
theorem text_abs0 (hA : rABS o M A) (hm : m ≤ 160) (ht : i2n (A.1 10 0) = t) (h6 : M' o 6 = 0) (hk : ∀ b k, RO o b → ¬ (b = o ∧ k = 6) → ¬ (b = o ∧ 22 ≤ k ∧ k ≤ 30) → ¬ (b = o + 1 ∧ 160 * t ≤ k ∧ k < 160 * t + m) → ¬ (b = o + 2 ∧ k = t) → M' b k = M b k) : rABS o M' (zUp A 12 0 0) := by
  refine rABS_mk (text_loc hA h6 hk) (fun i hi => ?_) (fun i hi => ?_) ((hk _ _ (by unfold RO; omega) (by omega) (by omega) (by omega) (by omega)).trans hA.as)
  · rw [zUp_e] at hi
    exact absurd hi (by rw [show i2n 0 = 0 from rfl]; omega)
  · rw [zUp_n (by decide)] at hi
    exact text_old hA hm hk hi (by omega)
theorem text_abs1 {E : RuleF} {M2 : Nat → Nat → Int32} (hA : rABS o M A) (hm : m ≤ 160) (ht6 : t < 6) (ht : i2n (A.1 10 0) = t) (h6 : M' o 6 = 0) (hk : ∀ b k, RO o b → ¬ (b = o ∧ k = 6) → ¬ (b = o ∧ 22 ≤ k ∧ k ≤ 30) → ¬ (b = o + 1 ∧ 160 * t ≤ k ∧ k < 160 * t + m) → ¬ (b = o + 2 ∧ k = t) → M' b k = M b k)
    (h2 : M' (o + 2) t = nI m) (hE : TXT (fun j => M' (o + 1) (160 * t + j)) m E) (hM2 : M2 = up2 M' o 3 (nI (t + 1))) : rABS o M2 ((zUp (zUp A 12 0 0) 10 0 (nI (t + 1))).1, fun i => if i = t then E else A.2 i) := by
  refine rABS_mk (fun b k x i hl => ?_) (fun i hi => ?_) (fun i hi => ?_) (by rw [hM2, up2_n (by omega)]; exact (hk _ _ (by unfold RO; omega) (by omega) (by omega) (by omega) (by omega)).trans hA.as)
  · show M2 x i = (zUp (zUp A 12 0 0) 10 0 (nI (t + 1))).1 b k
    by_cases e : b = 10 ∧ k = 0
    · obtain ⟨rfl, rfl⟩ := e
      obtain ⟨rfl, rfl⟩ : x = o ∧ i = 3 := by unfold LOC at hl; omega
      rw [hM2, up2_s]; exact zUp_e.symm
    · rw [hM2, up2_n (by unfold LOC at hl; omega), zUp_n e]
      exact text_loc hA h6 hk _ _ _ _ hl
  · have hi : i < i2n ((zUp (zUp A 12 0 0) 10 0 (nI (t + 1))).1 12 0) := hi
    rw [zUp_n (by decide), zUp_e] at hi
    exact absurd hi (by rw [show i2n 0 = 0 from rfl]; omega)
  · have hi : i < i2n ((zUp (zUp A 12 0 0) 10 0 (nI (t + 1))).1 10 0) := hi
    rw [zUp_e, show i2n (nI (t + 1)) = t + 1 from nI_clamp (by omega)] at hi
    have e1 : M2 (o + 1) = M' (o + 1) := by rw [hM2]; exact up2_a (by omega)
    have e2 : M2 (o + 2) = M' (o + 2) := by rw [hM2]; exact up2_a (by omega)
    rw [e1, e2]
    by_cases hit : i = t
    · subst hit
      exact ⟨m, hm, h2, by show TXT _ m (if i = i then E else A.2 i); rw [if_pos rfl]; exact hE⟩
    · show ∃ l, l ≤ 160 ∧ M' (o + 2) i = nI l ∧ TXT (fun j => M' (o + 1) (160 * i + j)) l (if i = t then E else A.2 i)
      rw [if_neg hit]
      exact text_old hA hm hk (by omega) (by omega)
end TXA
