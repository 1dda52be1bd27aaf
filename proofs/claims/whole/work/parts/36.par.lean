/-! READING A RULE, as one: places and codes -/
/-- the fault's place, or the place behind and the codes -/
abbrev PR : Type := Except Nat (Nat × List Int32)
def pBind (x : PR) (f : Nat → List Int32 → PR) : PR := match x with
  | .error e => .error e
  | .ok (p, c) => f p c
/-- one sign wanted -/
def pSee (b : Nat → Int32) (n p : Nat) (c : Int32) : Bool := decide (lk b n p = c)
def pTake (b : Nat → Int32) (n p : Nat) (c : Int32) (cs : List Int32) : PR := if pSee b n p c then .ok (sk b n p + 1, cs) else .error (sk b n p)
def pLetters : List Int32 := [97, 112, 119, 116, 107, 109, 101, 114]
/-- digits from p on: f more of them may follow -/
def pNum (b : Nat → Int32) (n : Nat) : Nat → Nat → Int32 → PR
  | 0, p, v => if p < n ∧ 48 ≤ b p ∧ b p ≤ 57 then .error p else .ok (p, [v])
  | f + 1, p, v => if p < n ∧ 48 ≤ b p ∧ b p ≤ 57 then pNum b n f (p + 1) (10 * v + b p - 48) else .ok (p, [v])
def pAtom (b : Nat → Int32) (n : Nat) (S : Option (Nat → PR)) (p : Nat) : PR :=
  if pLetters.any (fun c => decide (lk b n p = c)) then .ok (sk b n p + 1, [-lk b n p])
  else if pSee b n p 91 then (match S with
    | none => .error (sk b n p)
    | some s => pBind (s (sk b n p + 1)) (fun q cs => pTake b n q 93 cs))
  else if sk b n p < n ∧ 48 ≤ b (sk b n p) ∧ b (sk b n p) ≤ 57 then pNum b n 4 (sk b n p) 0 else .error (sk b n p)
/-- what follows is joined by signs: f times at most -/
def pMore (b : Nat → Int32) (n : Nat) (A : Nat → PR) (s t : Int32) : Nat → Nat → List Int32 → PR
  | 0, p, cs => .ok (p, cs)
  | f + 1, p, cs => if pSee b n p s || pSee b n p t then pBind (A (sk b n p + 1)) (fun q ds => pMore b n A s t f q (cs ++ ds ++ [-lk b n p])) else .ok (p, cs)
def pTerm (b : Nat → Int32) (n : Nat) (S : Option (Nat → PR)) (p : Nat) : PR := pBind (pAtom b n S p) (pMore b n (pAtom b n S) 42 47 n)
def pSum1 (b : Nat → Int32) (n : Nat) (S : Option (Nat → PR)) (p : Nat) : PR := pBind (pTerm b n S p) (pMore b n (pTerm b n S) 43 45 n)
/-- a sum, k depths left -/
def pSum (b : Nat → Int32) (n : Nat) : Nat → Nat → PR
  | 0 => pSum1 b n none
  | k + 1 => pSum1 b n (some (pSum b n k))
def pIsRel (b : Nat → Int32) (n p : Nat) : Bool := pSee b n p 61 || pSee b n p 60 || pSee b n p 62
/-- behind a first sum: its sign, the second -/
def pRel (b : Nat → Int32) (n : Nat) (S : Nat → PR) (p : Nat) (cs : List Int32) : PR := if pIsRel b n p then pBind (S (sk b n p + 1)) (fun q ds => .ok (q, cs ++ ds ++ [-lk b n p])) else .error (sk b n p)
/-- a unit; U, C: unit and condition one deeper -/
def pUnit1 (b : Nat → Int32) (n : Nat) (UC : Option ((Nat → PR) × (Nat → PR))) (S : Nat → PR) (p : Nat) : PR :=
  if pSee b n p 33 then (match UC with
    | none => .error (sk b n p)
    | some u => pBind (u.1 (sk b n p + 1)) (fun q cs => .ok (q, cs ++ [-33])))
  else if pSee b n p 40 then (match UC with
    | none => .error (sk b n p)
    | some u => pBind (u.2 (sk b n p + 1)) (fun q cs => pTake b n q 41 cs))
  else pBind (S p) (pRel b n S)
def pUnits (b : Nat → Int32) (n : Nat) (U : Nat → PR) : Nat → List Int32 → PR := pMore b n U 38 38 n
def pPart1 (b : Nat → Int32) (n : Nat) (U : Nat → PR) (p : Nat) : PR := pBind (U p) (pUnits b n U)
def pParts (b : Nat → Int32) (n : Nat) (U : Nat → PR) : Nat → List Int32 → PR := pMore b n (pPart1 b n U) 124 124 n
def pCond1 (b : Nat → Int32) (n : Nat) (U : Nat → PR) (p : Nat) : PR := pBind (pPart1 b n U p) (pParts b n U)
def pUC (b : Nat → Int32) (n : Nat) : Nat → (Nat → PR) × (Nat → PR)
  | 0 => (pUnit1 b n none (pSum b n 0), pCond1 b n (pUnit1 b n none (pSum b n 0)))
  | k + 1 => (pUnit1 b n (some (pUC b n k)) (pSum b n (k + 1)), pCond1 b n (pUnit1 b n (some (pUC b n k)) (pSum b n (k + 1))))
def pLabels : List Int32 := [113, 115, 100]
/-- behind a condition -/
def pThen (b : Nat → Int32) (n p : Nat) (cs : List Int32) : PR := pBind (pTake b n p 63 cs) (fun q ds => pBind (pSum b n 6 q) (fun r es => .ok (r, ds ++ [-63] ++ es ++ [-59])))
def pClause (b : Nat → Int32) (n p : Nat) : PR :=
  if pLabels.any (fun c => decide (lk b n p = c)) then
    pBind (pTake b n (sk b n p + 1) 58 [-lk b n p]) (fun q cs =>
      if pSee b n q 33 || pSee b n q 40 then pBind ((pUC b n 6).2 q) (fun r ds => pThen b n r (cs ++ ds))
      else pBind (pSum b n 6 q) (fun r ds =>
        if pIsRel b n r then pBind (pBind (pBind (pRel b n (pSum b n 6) r ds) (pUnits b n (pUC b n 6).1)) (pParts b n (pUC b n 6).1)) (fun r2 es => pThen b n r2 (cs ++ es))
        else .ok (r, cs ++ ds ++ [-59])))
  else .error (sk b n p)
def pClauses (b : Nat → Int32) (n : Nat) : Nat → Nat → List Int32 → PR
  | 0, p, cs => .ok (p, cs)
  | f + 1, p, cs => if pSee b n p 59 then pBind (pClause b n (sk b n p + 1)) (fun q ds => pClauses b n f q (cs ++ ds)) else .ok (p, cs)
/-- a rule: all of the text -/
def pRule (b : Nat → Int32) (n : Nat) : PR := pBind (pBind (pClause b n 0) (pClauses b n n)) (fun p cs => if pSee b n p (-1) then .ok (p, cs) else .error (sk b n p))
