/-! READING A RULE, as one: places and codes -/
/-- the fault's place, or the place behind and the codes -/
abbrev PR : Type := Except Nat (Nat × List Int32)
def pBind (x : PR) (f : Nat → List Int32 → PR) : PR := match x with
  | .error e => .error e
  | .ok (p, c) => f p c
/-- one sign wanted -/
def pSee (b : Nat → Int32) (n p : Nat) (c : Int32) : Bool := decide (lk b n p = c)
def pTake (b : Nat → Int32) (n p : Nat) (c : Int32) (cs : List Int32) : PR := if pSee b n p c then .ok (sk b n p + 1, cs) else .error (sk b n p)
def pLetters : List Int32 := [97, 112, 119, 116, 107, 109, 101, 114]
/-- digits from p on: f more of them may follow -/
def pNum (b : Nat → Int32) (n : Nat) : Nat → Nat → Int32 → PR
  | 0, p, v => if p < n ∧ 48 ≤ b p ∧ b p ≤ 57 then .error p else .ok (p, [v])
  | f + 1, p, v => if p < n ∧ 48 ≤ b p ∧ b p ≤ 57 then pNum b n f (p + 1) (10 * v + b p - 48) else .ok (p, [v])
def pAtom (b : Nat → Int32) (n : Nat) (S : Option (Nat → PR)) (p : Nat) : PR :=
  if pLetters.any (fun c => decide (lk b n p = c)) then .ok (sk b n p + 1, [-lk b n p])
  else if pSee b n p 91 then (match S with
    | none => .error (sk b n p)
    | some s => pBind (s (sk b n p + 1)) (fun q cs => pTake b n q 93 cs))
  else if 48 ≤ lk b n p ∧ lk b n p ≤ 57 then pNum b n 4 (sk b n p) 0 else .error (sk b n p)
/-- what follows is joined by signs: f times at most -/
def pMore (b : Nat → Int32) (n : Nat) (A : Nat → PR) (s t : Int32) : Nat → Nat → List Int32 → PR
  | 0, p, cs => .ok (p, cs)
  | f + 1, p, cs => if pSee b n p s || pSee b n p t then pBind (A (sk b n p + 1)) (fun q ds => pMore b n A s t f q (cs ++ ds ++ [-lk b n p])) else .ok (p, cs)
def pTerm (b : Nat → Int32) (n : Nat) (S : Option (Nat → PR)) (p : Nat) : PR := pBind (pAtom b n S p) (pMore b n (pAtom b n S) 42 47 n)
def pSum1 (b : Nat → Int32) (n : Nat) (S : Option (Nat → PR)) (p : Nat) : PR := pBind (pTerm b n S p) (pMore b n (pTerm b n S) 43 45 n)
/-- a sum, k depths left -/
def pSum (b : Nat → Int32) (n : Nat) : Nat → Nat → PR
  | 0 => pSum1 b n none
  | k + 1 => pSum1 b n (some (pSum b n k))
