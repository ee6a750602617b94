/-! ===== texts: tokens, and what a text says, as functions of its bytes ===== -/
/-- the byte at a place, -1 behind the end -/
def bt (b : Nat → Int32) (n i : Nat) : Int32 := if i < n then b i else -1
abbrev isBl (c : Int32) : Prop := c = 32 ∨ c = 10
abbrev isLt (c : Int32) : Prop := 97 ≤ c ∧ c ≤ 122
abbrev isDg (c : Int32) : Prop := 48 ≤ c ∧ c ≤ 57
abbrev isSg (c : Int32) : Prop := c = 40 ∨ c = 41 ∨ c = 59 ∨ c = 43 ∨ c = 45 ∨ c = 42 ∨ c = 60 ∨ c = 61
/-- the first place from i on (k at most) where p does not hold of the byte -/
def runTo (b : Nat → Int32) (n : Nat) (p : Int32 → Prop) [DecidablePred p] : Nat → Nat → Nat
  | 0, i => i
  | k + 1, i => if p (bt b n i) then runTo b n p k (i + 1) else i
def skB (b : Nat → Int32) (n i : Nat) : Nat := runTo b n isBl (n - i) i
def skL (b : Nat → Int32) (n i : Nat) : Nat := runTo b n isLt (n - i) i
def skD (b : Nat → Int32) (n i : Nat) : Nat := runTo b n isDg (n - i) i
/-- the number that k digits from s on tell -/
def dgs (b : Nat → Int32) (s : Nat) : Nat → Int32
  | 0 => 0
  | k + 1 => dgs b s k * 10 + b (s + k) - 48
/-- whether the letters from s to e are these -/
def wq (b : Nat → Int32) (s e : Nat) (l : List Int32) : Prop := e - s = l.length ∧ ∀ i, i < l.length → b (s + i) = l.getD i 0
def wFar : List Int32 := [102, 97, 114]
def wWarm : List Int32 := [119, 97, 114, 109]
def wLegs : List Int32 := [108, 101, 103, 115]
def wQuick : List Int32 := [113, 117, 105, 99, 107]
def wNumber : List Int32 := [110, 117, 109, 98, 101, 114]
def wCell : List Int32 := [99, 101, 108, 108]
def wFlies : List Int32 := [102, 108, 105, 101, 115]
def wSteps : List Int32 := [115, 116, 101, 112, 115]
def wSlips : List Int32 := [115, 108, 105, 112, 115]
def wOr : List Int32 := [111, 114]
def wAnd : List Int32 := [97, 110, 100]
def wNot : List Int32 := [110, 111, 116]
noncomputable def wname (b : Nat → Int32) (s e : Nat) : Int32 := by
  classical
  exact if wq b s e wFar then -1 else if wq b s e wWarm then -2 else if wq b s e wLegs then -3 else if wq b s e wQuick then -4 else if wq b s e wNumber then -5 else if wq b s e wCell then -6 else 0
noncomputable def wkey (b : Nat → Int32) (s e : Nat) : Int32 := by
  classical
  exact if wq b s e wFlies then 3 else if wq b s e wSteps then 4 else if wq b s e wSlips then 5 else if wq b s e wOr then 6 else if wq b s e wAnd then 7 else if wq b s e wNot then 8 else 9
/-- the token read from i on: its kind, its worth, where it begins, where it ends -/
abbrev Tok : Type := Int32 × Int32 × Nat × Nat
noncomputable def tok (b : Nat → Int32) (n i : Nat) : Tok :=
  if n ≤ skB b n i then (0, 0, skB b n i, skB b n i)
  else if isLt (b (skB b n i)) then
    (if wname b (skB b n i) (skL b n (skB b n i)) = 0 then (wkey b (skB b n i) (skL b n (skB b n i)), 0, skB b n i, skL b n (skB b n i)) else (2, wname b (skB b n i) (skL b n (skB b n i)), skB b n i, skL b n (skB b n i)))
  else if isDg (b (skB b n i)) then
    (if 4 < skD b n (skB b n i) - skB b n i then (9, 0, skB b n i, skD b n (skB b n i)) else (1, dgs b (skB b n i) (skD b n (skB b n i) - skB b n i), skB b n i, skD b n (skB b n i)))
  else if isSg (b (skB b n i)) then (b (skB b n i), 0, skB b n i, skB b n i + 1)
  else (9, 0, skB b n i, skB b n i + 1)
/-- what the names are -/
abbrev Nms : Type := Nat → Int32
/-- a fault's place; or a part read: its code, what it says, where the next token is read from -/
abbrev PR : Type := Nat ⊕ (List Int32 × (Nms → Int32) × Nat)
def pBind (r : PR) (f : List Int32 → (Nms → Int32) → Nat → PR) : PR := match r with
  | .inl k => .inl k
  | .inr q => f q.1 q.2.1 q.2.2
abbrev PF : Type := Nat → PR
section PRS
variable (b : Nat → Int32) (n : Nat)
noncomputable def gOne (can : Bool) (o1 e1 : PF) : PF := fun i =>
  if (tok b n i).1 = 1 then .inr ([(tok b n i).2.1], fun _ => (tok b n i).2.1, (tok b n i).2.2.2)
  else if (tok b n i).1 = 2 then .inr ([(tok b n i).2.1], fun nm => nm (-1 - (tok b n i).2.1).toNatClampNeg, (tok b n i).2.2.2)
  else if (tok b n i).1 = 45 then (if can = true then pBind (o1 (tok b n i).2.2.2) (fun c d j => .inr (c ++ [-8], fun nm => - d nm, j)) else .inl (tok b n i).2.2.1)
  else if (tok b n i).1 = 40 then (if can = true then pBind (e1 (tok b n i).2.2.2) (fun c d j => if (tok b n j).1 = 41 then .inr (c, d, (tok b n j).2.2.2) else .inl (tok b n j).2.2.1) else .inl (tok b n i).2.2.1)
  else .inl (tok b n i).2.2.1
/-- a loop of operands: while the token is op of them, one more -/
noncomputable def gLoop (ops : Int32 → Option (Int32 × (Int32 → Int32 → Int32))) (sub : PF) : Nat → List Int32 → (Nms → Int32) → Nat → PR
  | 0, c, d, i => .inr (c, d, i)
  | k + 1, c, d, i => match ops (tok b n i).1 with
    | none => .inr (c, d, i)
    | some o => pBind (sub (tok b n i).2.2.2) (fun c2 d2 j => gLoop ops sub k (c ++ c2 ++ [o.1]) (fun nm => o.2 (d nm) (d2 nm)) j)
def oMul (t : Int32) : Option (Int32 × (Int32 → Int32 → Int32)) := if t = 42 then some (-15, fun x y => x * y) else none
def oAdd (t : Int32) : Option (Int32 × (Int32 → Int32 → Int32)) := if t = 43 then some (-13, fun x y => x + y) else if t = 45 then some (-14, fun x y => x - y) else none
def oAnd (t : Int32) : Option (Int32 × (Int32 → Int32 → Int32)) := if t = 7 then some (-10, fun x y => b2 (¬ x = 0 ∧ ¬ y = 0)) else none
def oOr (t : Int32) : Option (Int32 × (Int32 → Int32 → Int32)) := if t = 6 then some (-9, fun x y => b2 (¬ x = 0 ∨ ¬ y = 0)) else none
def oCmp (t : Int32) : Option (Int32 × (Int32 → Int32 → Int32)) := if t = 60 then some (-11, fun x y => b2 (x < y)) else if t = 61 then some (-12, fun x y => b2 (x = y)) else none
noncomputable def gTerm (one : PF) : PF := fun i => pBind (one i) (gLoop b n oMul one 160)
noncomputable def gSum (one : PF) : PF := fun i => pBind (gTerm b n one i) (gLoop b n oAdd (gTerm b n one) 160)
noncomputable def gNot (can : Bool) (n1 one : PF) : PF := fun i =>
  if (tok b n i).1 = 8 then (if can = true then pBind (n1 (tok b n i).2.2.2) (fun c d j => .inr (c ++ [-7], fun nm => b2 (d nm = 0), j)) else .inl (tok b n i).2.2.1)
  else pBind (gSum b n one i) (fun c d j => match oCmp (tok b n j).1 with
    | none => .inr (c, d, j)
    | some o => pBind (gSum b n one (tok b n j).2.2.2) (fun c2 d2 j2 => .inr (c ++ c2 ++ [o.1], fun nm => o.2 (d nm) (d2 nm), j2)))
noncomputable def gBoth (nt : PF) : PF := fun i => pBind (nt i) (gLoop b n oAnd nt 160)
noncomputable def gEither (nt : PF) : PF := fun i => pBind (gBoth b n nt i) (gLoop b n oOr (gBoth b n nt) 160)
def pNo : PF := fun i => .inl i
/-- one, not, either, when f more may be open -/
noncomputable def lev : Nat → PF × PF × PF
  | 0 => (gOne b n false pNo pNo, gNot b n false pNo (gOne b n false pNo pNo), gEither b n (gNot b n false pNo (gOne b n false pNo pNo)))
  | f + 1 => (gOne b n true (lev f).1 (lev f).2.2, gNot b n true (lev f).2.1 (gOne b n true (lev f).1 (lev f).2.2), gEither b n (gNot b n true (lev f).2.1 (gOne b n true (lev f).1 (lev f).2.2)))
/-- a part: its key at i, an E, a ; -/
noncomputable def gPart (key : Int32) : PF := fun i =>
  if (tok b n i).1 = key then pBind ((lev b n 5).2.2 (tok b n i).2.2.2) (fun c d j => if (tok b n j).1 = 59 then .inr (c, d, (tok b n j).2.2.2) else .inl (tok b n j).2.2.1)
  else .inl (tok b n i).2.2.1
/-- a text: the fault's place, or its three parts' codes and what they say -/
noncomputable def gText : Nat ⊕ ((List Int32 × List Int32 × List Int32) × (Nms → Int32) × (Nms → Int32) × (Nms → Int32)) :=
  match gPart b n 3 0 with
  | .inl k => .inl k
  | .inr (c0, d0, i0) => match gPart b n 4 i0 with
    | .inl k => .inl k
    | .inr (c1, d1, i1) => match gPart b n 5 i1 with
      | .inl k => .inl k
      | .inr (c2, d2, i2) => if (tok b n i2).1 = 0 then .inr ((c0, c1, c2), d0, d1, d2) else .inl (tok b n i2).2.2.1
end PRS
/-- the names' row, as the rule's askers tell them -/
def nms (far warm legs quick number cell : Int32) : Nms := fun k => match k with
  | 0 => far
  | 1 => warm
  | 2 => legs
  | 3 => quick
  | 4 => number
  | _ => cell
/-- the text of n bytes b says E -/
def TXT (b : Nat → Int32) (n : Nat) (E : Nat → Int32 → Int32 → Int32 → Int32 → Int32 → Int32 → Int32) : Prop :=
  (∀ i, i < n → 0 ≤ (b i).toInt ∧ (b i).toInt ≤ 255) ∧ ∃ cs d0 d1 d2, gText b n = .inr (cs, d0, d1, d2) ∧ ∀ w far warm legs quick number cell, E w far warm legs quick number cell = (match w with
    | 0 => d0 (nms far warm legs quick number cell)
    | 1 => d1 (nms far warm legs quick number cell)
    | _ => d2 (nms far warm legs quick number cell))
/-- the reference's rule says E -/
def RTX (o : Nat) (M : Nat → Nat → Int32) (E : Nat → Int32 → Int32 → Int32 → Int32 → Int32 → Int32 → Int32) : Prop :=
  ∃ r m, r < 6 ∧ m ≤ 160 ∧ M o 4 = nI r ∧ M (o + 2) r = nI m ∧ TXT (fun i => M (o + 1) (160 * r + i)) m E
theorem RTX.keep {o : Nat} {M M' : Nat → Nat → Int32} {E : Nat → Int32 → Int32 → Int32 → Int32 → Int32 → Int32 → Int32} (h : RTX o M E) (h1 : M' (o + 1) = M (o + 1)) (h2 : M' (o + 2) = M (o + 2)) (h3 : M' o 4 = M o 4) : RTX o M' E := by
  obtain ⟨r, m, a, b, c, d, e⟩ := h
  refine ⟨r, m, a, b, h3.trans c, by rw [h2]; exact d, ?_⟩
  rw [h1]
  exact e
