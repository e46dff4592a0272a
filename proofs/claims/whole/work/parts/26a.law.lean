/-! laws: reading tokens (c their codes, v their numbers), the steps made of them, what they tell -/
abbrev PR (α : Type) : Type := Nat ⊕ (Nat × Nat × List (Nat × Nat) × ((Nat → Int) → Option α))
abbrev PI (α : Type) : Type := Nat → Nat → Nat → PR α
def limI (v : Int) : Option Int := if -1000000000 ≤ v ∧ v ≤ 1000000000 then some v else none
def opI (k : Nat) (x y : Int) : Option Int := match k with
  | 2 => limI (x + y)
  | 3 => limI (x - y)
  | 4 => limI (x * y)
  | _ => if y = 0 then none else limI (Int.tdiv x y)
def cmI (k : Nat) (x y : Int) : Bool := match k with
  | 6 => decide (x < y)
  | 7 => decide (y < x)
  | _ => decide (x = y)
def op2 {α β γ : Type} (f : α → β → Option γ) (x : Option α) (y : Option β) : Option γ := match x, y with
  | some x, some y => f x y
  | _, _ => none
/-- one behind another; what is left out if the first one decides -/
def dec2 (short : Bool) (x y : Option Bool) : Option Bool := match x with
  | none => none
  | some b => if b = short then some b else y
def isLeaf (c v : Nat → Nat) (a : Nat) : Prop := (c a = 50 ∧ v a ≤ 1000) ∨ (7 ≤ c a ∧ c a ≤ 14)
def pLeaf (c v : Nat → Nat) (a p : Nat) : PR Int :=
  if ((c a = 50 ∧ v a ≤ 1000) ∨ (7 ≤ c a ∧ c a ≤ 14)) ∧ p < 50 then
    .inr (a + 1, p + 1, [if c a = 50 then (0, v a) else (1, c a - 7)], fun e => some (if c a = 50 then (v a : Int) else e (c a - 7)))
  else .inl a
def pLoop (c : Nat → Nat) (o1 o2 k1 k2 : Nat) (it : PI Int) (s : Nat) : Nat → Nat → Nat → List (Nat × Nat) → ((Nat → Int) → Option Int) → PR Int
  | 0, a, p, k, m => .inr (a, p, k, m)
  | n + 1, a, p, k, m =>
    if c a = o1 ∨ c a = o2 then
      match it (a + 1) p (s + k.length) with
      | .inl f => .inl f
      | .inr (a', p', k', m') => pLoop c o1 o2 k1 k2 it s n a' p' (k ++ (k' ++ [(if c a = o1 then k1 else k2, 0)])) (fun e => op2 (opI (if c a = o1 then k1 else k2)) (m e) (m' e))
    else .inr (a, p, k, m)
def pSeq (c : Nat → Nat) (o1 o2 k1 k2 : Nat) (it : PI Int) : PI Int := fun a p s =>
  match it a p s with
  | .inl f => .inl f
  | .inr (a', p', k, m) => pLoop c o1 o2 k1 k2 it s 400 a' p' k m
def pTerm (c : Nat → Nat) (it : PI Int) : PI Int := pSeq c 142 147 4 5 it
def pSumOf (c : Nat → Nat) (it : PI Int) : PI Int := pSeq c 143 145 2 3 (pTerm c it)
def pBra (c v : Nat → Nat) (inn : PI Int) : PI Int := fun a p s =>
  if c a = 191 then
    match inn (a + 1) p s with
    | .inl f => .inl f
    | .inr (a', p', k, m) => if c a' = 193 then .inr (a' + 1, p', k, m) else .inl a'
  else pLeaf c v a p
def pPart (c v : Nat → Nat) : Nat → PI Int
  | 0 => pBra c v (fun a _ _ => .inl (a - 1))
  | r + 1 => pBra c v (pSumOf c (pPart c v r))
def pSum (c v : Nat → Nat) (r : Nat) : PI Int := pSumOf c (pPart c v r)
def pCmp (c : Nat → Nat) (it : PI Int) : PI Bool := fun a p s =>
  match it a p s with
  | .inl f => .inl f
  | .inr (a1, p1, k1, m1) =>
    if c a1 = 160 ∨ c a1 = 162 ∨ c a1 = 161 then
      match it (a1 + 1) p1 (s + k1.length) with
      | .inl f => .inl f
      | .inr (a2, p2, k2, m2) => .inr (a2, p2, k1 ++ (k2 ++ [(if c a1 = 160 then 6 else if c a1 = 162 then 7 else 8, 0)]), fun e => op2 (fun x y => some (cmI (if c a1 = 160 then 6 else if c a1 = 162 then 7 else 8) x y)) (m1 e) (m2 e))
    else .inl a1
def pNots (c : Nat → Nat) : Nat → Nat → Bool → Nat × Bool
  | 0, a, t => (a, t)
  | n + 1, a, t => if c a = 6 then pNots c n (a + 1) (!t) else (a, t)
def pTurn (t : Bool) (x : PR Bool) : PR Bool := match x with
  | .inl f => .inl f
  | .inr (a, p, k, m) => if t = true then .inr (a, p, k ++ [(9, 0)], fun e => (m e).map (fun b => !b)) else .inr (a, p, k, m)
def pPar (c : Nat → Nat) (cmp inn : PI Bool) : PI Bool := fun a p s =>
  if c a = 140 then
    match inn (a + 1) p s with
    | .inl f => .inl f
    | .inr (a', p', k, m) => if c a' = 141 then .inr (a' + 1, p', k, m) else .inl a'
  else cmp a p s
def pNot (c : Nat → Nat) (cmp inn : PI Bool) : PI Bool := fun a p s => pTurn (pNots c 400 a false).2 (pPar c cmp inn (pNots c 400 a false).1 p s)
def pTLoop (c : Nat → Nat) (w kk : Nat) (short : Bool) (it : PI Bool) (s : Nat) : Nat → Nat → Nat → List (Nat × Nat) → ((Nat → Int) → Option Bool) → PR Bool
  | 0, a, p, k, m => .inr (a, p, k, m)
  | n + 1, a, p, k, m =>
    if c a = w then
      match it (a + 1) p (s + k.length + 1) with
      | .inl f => .inl f
      | .inr (a', p', k', m') => pTLoop c w kk short it s n a' p' (k ++ ((kk, s + k.length + 1 + k'.length) :: k')) (fun e => dec2 short (m e) (m' e))
    else .inr (a, p, k, m)
def pTSeq (c : Nat → Nat) (w kk : Nat) (short : Bool) (it : PI Bool) : PI Bool := fun a p s =>
  match it a p s with
  | .inl f => .inl f
  | .inr (a', p', k, m) => pTLoop c w kk short it s 400 a' p' k m
def pBothOf (c : Nat → Nat) (it : PI Bool) : PI Bool := pTSeq c 5 11 false it
def pTestOf (c : Nat → Nat) (it : PI Bool) : PI Bool := pTSeq c 4 10 true (pBothOf c it)
def pPlain (c v : Nat → Nat) : Nat → PI Bool
  | 0 => pNot c (pCmp c (pSum c v 0)) (fun a _ _ => .inl (a - 1))
  | r + 1 => pNot c (pCmp c (pSum c v (r + 1))) (pTestOf c (pPlain c v r))
def pTest (c v : Nat → Nat) (r : Nat) : PI Bool := pTestOf c (pPlain c v r)
/-- a clause: whether it spares, whether it is tested, its steps, what it tells, what is tested -/
abbrev PC : Type := Bool × Bool × List (Nat × Nat) × ((Nat → Int) → Option Int) × ((Nat → Int) → Option Bool)
def pIf (c v : Nat → Nat) (sp : Bool) (s a p : Nat) (k : List (Nat × Nat)) (m : (Nat → Int) → Option Int) : Nat ⊕ (Nat × Nat × PC) :=
  if c a = 3 then
    match pTest c v 8 (a + 1) p (s + k.length) with
    | .inl f => .inl f
    | .inr (a', p', k', m') => .inr (a', p', sp, true, k ++ k', m, m')
  else .inr (a, p, sp, false, k, m, fun _ => some true)
def pClause (c v : Nat → Nat) (a p s : Nat) : Nat ⊕ (Nat × Nat × PC) :=
  if c a = 2 then pIf c v true s (a + 1) p [] (fun _ => some 0)
  else if c a = 1 then
    match pSum c v 8 (a + 1) p s with
    | .inl f => .inl f
    | .inr (a', p', k, m) => pIf c v false s a' p' k m
  else .inl a
/-- clause behind clause: n more may come -/
def pLaw (c v : Nat → Nat) (N : Nat) : Nat → Nat → Nat → Nat → Nat ⊕ List PC
  | 0, a, _, _ => .inl a
  | n + 1, a, p, s =>
    match pClause c v a p s with
    | .inl f => .inl f
    | .inr (a', p', C) =>
      if a' = N then .inr [C]
      else if c a' = 159 then
        match pLaw c v N n (a' + 1) p' (s + C.2.2.1.length) with
        | .inl f => .inl f
        | .inr l => .inr (C :: l)
      else .inl a'
/-- what a clause does to what is told -/
def clHolds (C : PC) (e : Nat → Int) : Bool := (C.2.2.2.1 e).isSome && (C.2.2.2.2 e == some true)
def clamp (v : Int) : Nat := if v < 0 then 0 else if 999 < v then 999 else v.toNat
def taxL : List PC → (Nat → Int) → Nat → Nat
  | [], _, t => t
  | C :: l, e, t => if clHolds C e = true then (if C.1 = true then 0 else taxL l e (clamp ((C.2.2.2.1 e).getD 0))) else taxL l e t
