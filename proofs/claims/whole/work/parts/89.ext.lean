/-! a rule's text counts as far as it goes -/
section EXT
variable {b b' : Nat → Int32} {n : Nat}
theorem skF_x (h : ∀ p, p < n → b p = b' p) : ∀ f p, p + f ≤ n → skF b f p = skF b' f p
  | 0, _, _ => rfl
  | f + 1, p, hp => by
    unfold skF
    rw [h p (by omega), skF_x h f (p + 1) (by omega)]
theorem sk_x (h : ∀ p, p < n → b p = b' p) : sk b n = sk b' n := by
  funext p
  unfold sk
  rcases Nat.lt_or_ge p n with y | y
  · exact skF_x h _ _ (by omega)
  · rw [show n - p = 0 by omega]; rfl
theorem lk_x (h : ∀ p, p < n → b p = b' p) : lk b n = lk b' n := by
  funext p
  unfold lk
  rw [sk_x h]
  by_cases y : sk b' n p < n
  · rw [if_pos y, if_pos y, h _ y]
  · rw [if_neg y, if_neg y]
theorem see_x (h : ∀ p, p < n → b p = b' p) : pSee b n = pSee b' n := by
  funext p c
  unfold pSee
  rw [lk_x h]
theorem take_x (h : ∀ p, p < n → b p = b' p) : pTake b n = pTake b' n := by
  funext p c cs
  unfold pTake
  rw [see_x h, sk_x h]
theorem num_x (h : ∀ p, p < n → b p = b' p) : ∀ f p v, pNum b n f p v = pNum b' n f p v
  | 0, p, v => by
    unfold pNum
    by_cases y : p < n
    · rw [h p y]
    · rw [if_neg (fun z => y z.1), if_neg (fun z => y z.1)]
  | f + 1, p, v => by
    unfold pNum
    by_cases y : p < n
    · rw [h p y, num_x h f]
    · rw [if_neg (fun z => y z.1), if_neg (fun z => y z.1)]
theorem atom_x (h : ∀ p, p < n → b p = b' p) : pAtom b n = pAtom b' n := by
  funext S p
  unfold pAtom
  rw [lk_x h, see_x h, sk_x h, take_x h]
  by_cases y : sk b' n p < n
  · rw [h _ y, num_x h]
  · rw [if_neg (show ¬ (sk b' n p < n ∧ 48 ≤ b (sk b' n p) ∧ b (sk b' n p) ≤ 57) from fun z => y z.1), if_neg (show ¬ (sk b' n p < n ∧ 48 ≤ b' (sk b' n p) ∧ b' (sk b' n p) ≤ 57) from fun z => y z.1)]
theorem more_x (h : ∀ p, p < n → b p = b' p) (A : Nat → PR) (s t : Int32) : ∀ f p cs, pMore b n A s t f p cs = pMore b' n A s t f p cs
  | 0, _, _ => rfl
  | f + 1, p, cs => by
    unfold pMore
    rw [see_x h, sk_x h, lk_x h, show (fun q ds => pMore b n A s t f q (cs ++ ds ++ [-lk b' n p])) = (fun q ds => pMore b' n A s t f q (cs ++ ds ++ [-lk b' n p])) from funext (fun q => funext (fun ds => more_x h A s t f q _))]
theorem more_x2 (h : ∀ p, p < n → b p = b' p) (A : Nat → PR) (s t : Int32) : pMore b n A s t = pMore b' n A s t := funext (fun f => funext (fun p => funext (fun cs => more_x h A s t f p cs)))
theorem sum1_x (h : ∀ p, p < n → b p = b' p) (S : Option (Nat → PR)) : pSum1 b n S = pSum1 b' n S := by
  have ht : pTerm b n S = pTerm b' n S := by
    funext p
    unfold pTerm
    rw [atom_x h, more_x2 h]
  funext p
  unfold pSum1
  rw [ht, more_x2 h]
theorem sum_x (h : ∀ p, p < n → b p = b' p) : ∀ k, pSum b n k = pSum b' n k
  | 0 => sum1_x h none
  | k + 1 => by
    show pSum1 b n (some (pSum b n k)) = pSum1 b' n (some (pSum b' n k))
    rw [sum_x h k, sum1_x h]
theorem rel_x (h : ∀ p, p < n → b p = b' p) (S : Nat → PR) : pRel b n S = pRel b' n S := by
  funext p cs
  unfold pRel pIsRel
  rw [see_x h, sk_x h, lk_x h]
theorem unit1_x (h : ∀ p, p < n → b p = b' p) (U : Option ((Nat → PR) × (Nat → PR))) (S : Nat → PR) : pUnit1 b n U S = pUnit1 b' n U S := by
  funext p
  unfold pUnit1
  rw [see_x h, sk_x h, take_x h, rel_x h]
theorem part1_x (h : ∀ p, p < n → b p = b' p) (U : Nat → PR) : pPart1 b n U = pPart1 b' n U := by
  funext p
  unfold pPart1 pUnits
  rw [more_x2 h]
theorem cond1_x (h : ∀ p, p < n → b p = b' p) (U : Nat → PR) : pCond1 b n U = pCond1 b' n U := by
  funext p
  unfold pCond1 pParts
  rw [part1_x h, more_x2 h]
theorem uc_x (h : ∀ p, p < n → b p = b' p) : ∀ k, pUC b n k = pUC b' n k
  | 0 => by rw [pUC_0, pUC_0, unit1_x h, sum_x h, cond1_x h]
  | k + 1 => by rw [pUC_s, pUC_s, uc_x h k, unit1_x h, sum_x h, cond1_x h]
theorem then_x (h : ∀ p, p < n → b p = b' p) : pThen b n = pThen b' n := by
  funext p cs
  unfold pThen
  rw [take_x h, sum_x h]
theorem clause_x (h : ∀ p, p < n → b p = b' p) : pClause b n = pClause b' n := by
  funext p
  unfold pClause pUnits pParts pPart1 pUnits pIsRel
  rw [lk_x h, sk_x h, take_x h, see_x h, then_x h, sum_x h, uc_x h, rel_x h]
  simp only [more_x2 h]
theorem clauses_x (h : ∀ p, p < n → b p = b' p) : ∀ f p cs, pClauses b n f p cs = pClauses b' n f p cs
  | 0, _, _ => rfl
  | f + 1, p, cs => by
    unfold pClauses
    rw [see_x h, sk_x h, clause_x h, show (fun q ds => pClauses b n f q (cs ++ ds)) = (fun q ds => pClauses b' n f q (cs ++ ds)) from funext (fun q => funext (fun ds => clauses_x h f q _))]
theorem pRule_x (h : ∀ p, p < n → b p = b' p) : pRule b n = pRule b' n := by
  unfold pRule
  rw [clause_x h, show pClauses b n n = pClauses b' n n from funext (fun p => funext (fun cs => clauses_x h n p cs)), see_x h, sk_x h]
end EXT
