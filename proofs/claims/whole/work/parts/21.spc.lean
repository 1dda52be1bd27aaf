/-! WHAT THE DOCUMENT SAYS, over a state: answers and next states, for both sides -/
noncomputable def cI {α : Type} (P : Prop) (a b : α) : α := @ite _ P (Classical.propDecidable P) a b
theorem cI_t {α : Type} {P : Prop} {a b : α} (h : P) : cI P a b = a := if_pos h
theorem cI_f {α : Type} {P : Prop} {a b : α} (h : ¬ P) : cI P a b = b := if_neg h
theorem cI_c {α : Type} {P P' : Prop} {a b : α} (h : P ↔ P') : cI P a b = cI P' a b := by rw [propext h]
theorem fin {Q : Option Value → Mem → Prop} {M : Mem} {a b : Int32} (h : Q (some (.int a)) M) (e : a = b) : Q (some (.int b)) M := e ▸ h
def fold {α : Type} (f : Nat → α → α) (a : α) : Nat → α
  | 0 => a
  | n + 1 => f n (fold f a n)
def cn (σ : MS) (k : Nat) : Nat := (σ.1 k).toNatClampNeg
def isP (σ : MS) (p : Int32) : Prop := 0 ≤ p ∧ p < σ.1 15
def isL (σ : MS) (l : Int32) : Prop := 0 ≤ l ∧ l < σ.1 16
def isK (σ : MS) (q : Int32) : Prop := 0 ≤ q ∧ q ≤ σ.1 1
def isD (x : Int32) : Prop := 0 ≤ x ∧ x ≤ 1000
def isS (x : Int32) : Prop := 0 ≤ x ∧ x ≤ 9
/-- the counts' bounds -/
def mBnd : List (Nat × Nat) := [(1, 1000), (15, 24), (16, 200), (17, 60), (24, 160), (25, 20), (44, 100), (49, 200), (59, 4), (60, 8), (65, 8)]
def Bnd (σ : MS) (k b : Nat) : Prop := σ.1 k = nI (cn σ k) ∧ cn σ k ≤ b
def Cnt (σ : MS) : Prop := ∀ q ∈ mBnd, Bnd σ q.1 q.2
theorem Cnt.b {σ : MS} (h : Cnt σ) (k : Nat) {b : Nat} (hm : (k, b) ∈ mBnd) : σ.1 k = nI (cn σ k) ∧ cn σ k ≤ b := h (k, b) hm
/-- an index below a count -/
theorem in_lt {l c : Int32} {n N : Nat} (h0 : 0 ≤ l) (h1 : l < c) (hc : c = nI n) (hn : n ≤ N) (hN : N < 2 ^ 31) : vp_in l N := by
  rw [vp_in_iff]
  rw [Int32.le_iff_toInt_le, Int32.toInt_zero] at h0
  rw [Int32.lt_iff_toInt_lt, hc, nI_toInt (by omega)] at h1
  omega
theorem of_lt {l c : Int32} {n : Nat} (h0 : 0 ≤ l) (h1 : l < c) (hc : c = nI n) (hN : n < 2 ^ 31) : ∃ j, j < n ∧ l = nI j := by
  have := in_lt h0 h1 hc (Nat.le_refl n) hN
  exact vp_in_of this hN
theorem of_le {l c : Int32} {n : Nat} (h0 : 0 ≤ l) (h1 : l ≤ c) (hc : c = nI n) (hN : n < 2 ^ 31) : ∃ j, j ≤ n ∧ l = nI j :=
  nI_of2 (M := c) (by rw [hc, nI_toInt hN]) (Int32.not_lt.mpr h0) h1
-- days
noncomputable def aDays (σ : MS) (n : Int32) : Int32 := cI ((0 ≤ n ∧ n ≤ 400) ∧ σ.1 1 + n ≤ 1000) (σ.1 1 + n) (-1)
noncomputable def nDays (σ : MS) (n : Int32) : MS := cI ((0 ≤ n ∧ n ≤ 400) ∧ σ.1 1 + n ≤ 1000) (seti (seti σ 0 0) 1 (σ.1 1 + n)) (seti σ 0 0)
-- person
def pPerson (σ : MS) (a b c : Int32) : Prop := σ.1 15 ≠ 24 ∧ (0 ≤ a ∧ a ≤ 7) ∧ (10 ≤ b ∧ b ≤ 99) ∧ (0 ≤ c ∧ c ≤ 7)
noncomputable def aPerson (σ : MS) (a b c : Int32) : Int32 := cI (pPerson σ a b c) (σ.1 15) (-1)
noncomputable def nPerson (σ : MS) (a b c : Int32) : MS := cI (pPerson σ a b c) (seti (seta (seta (seta (seti σ 0 0) 2 (cn σ 15) a) 3 (cn σ 15) b) 4 (cn σ 15) c) 15 (σ.1 15 + 1)) (seti σ 0 0)
-- stops
def spStop (σ : MS) (p q : Int32) (n : Nat) : Int32 := fold (fun i day => if σ.2 5 i = p ∧ σ.2 7 i ≤ q then σ.2 6 i else day) (-1) n
def pStop (σ : MS) (p day : Int32) : Prop := σ.1 17 ≠ 60 ∧ isP σ p ∧ isD day
noncomputable def aStop (σ : MS) (p day : Int32) : Int32 := bI (pStop σ p day)
noncomputable def nStop (σ : MS) (p day : Int32) : MS := cI (pStop σ p day) (seti (seta (seta (seta (seti σ 0 0) 5 (cn σ 17) p) 6 (cn σ 17) day) 7 (cn σ 17) (σ.1 1)) 17 (σ.1 17 + 1)) (seti σ 0 0)
noncomputable def aStopped (σ : MS) (p q : Int32) : Int32 := cI (isP σ p ∧ isK σ q) (spStop σ p q (cn σ 17)) (-1)
-- line
def pLine (σ : MS) (p day sort mood say src : Int32) : Prop := σ.1 16 ≠ 200 ∧ isP σ p ∧ (0 ≤ day ∧ day ≤ σ.1 1) ∧ isS sort ∧ (-9 ≤ mood ∧ mood ≤ 9) ∧ (-1 ≤ say ∧ say ≤ 29) ∧ (src = -1 ∨ (isP σ src ∧ src ≠ p ∧ say ≠ -1)) ∧ ¬ (spStop σ p (σ.1 1) (cn σ 17) ≠ -1 ∧ spStop σ p (σ.1 1) (cn σ 17) ≤ day)
noncomputable def aLine (σ : MS) (p day sort mood say src : Int32) : Int32 := cI (pLine σ p day sort mood say src) (σ.1 16) (-1)
noncomputable def nLine (σ : MS) (p day sort mood say src : Int32) : MS := cI (pLine σ p day sort mood say src)
  (seti (seta (seta (seta (seta (seta (seta (seta (seti σ 0 0) 8 (cn σ 16) p) 9 (cn σ 16) day) 10 (cn σ 16) sort) 11 (cn σ 16) mood) 12 (cn σ 16) say) 13 (cn σ 16) src) 14 (cn σ 16) (σ.1 1)) 16 (σ.1 16 + 1)) (seti σ 0 0)
