/-! WHAT THE DOCUMENT SAYS, over a state: answers and next states, for both sides -/
noncomputable def cI {α : Type} (P : Prop) (a b : α) : α := @ite _ P (Classical.propDecidable P) a b
theorem cI_t {α : Type} {P : Prop} {a b : α} (h : P) : cI P a b = a := if_pos h
theorem cI_f {α : Type} {P : Prop} {a b : α} (h : ¬ P) : cI P a b = b := if_neg h
theorem cI_c {α : Type} {P P' : Prop} {a b : α} (h : P ↔ P') : cI P a b = cI P' a b := by rw [propext h]
theorem fin {Q : Option Value → Mem → Prop} {M : Mem} {a b : Int32} (h : Q (some (.int a)) M) (e : a = b) : Q (some (.int b)) M := e ▸ h
/-- both the answer and the state hang on P -/
theorem fin_t {Q : Option Value → Mem → Prop} {P : Prop} {a b c : Int32} {m : MS → Mem} {s t : MS} (h : Q (some (.int (cI P a b))) (m (cI P s t))) (hp : P) (e : a = c) : Q (some (.int c)) (m s) := by rw [cI_t hp, cI_t hp, e] at h; exact h
theorem fin_f {Q : Option Value → Mem → Prop} {P : Prop} {a b : Int32} {m : MS → Mem} {s t : MS} (h : Q (some (.int (cI P a b))) (m (cI P s t))) (hp : ¬ P) : Q (some (.int b)) (m t) := by rw [cI_f hp, cI_f hp] at h; exact h
theorem fan_t {Q : Option Value → Mem → Prop} {P : Prop} {a b : Int32} {M : Mem} (h : Q (some (.int (cI P a b))) M) (hp : P) : Q (some (.int a)) M := by rw [cI_t hp] at h; exact h
theorem fan_f {Q : Option Value → Mem → Prop} {P : Prop} {a b : Int32} {M : Mem} (h : Q (some (.int (cI P a b))) M) (hp : ¬ P) : Q (some (.int b)) M := by rw [cI_f hp] at h; exact h
theorem fbn_t {Q : Option Value → Mem → Prop} {P : Prop} {m : MS → Mem} {s t : MS} (h : Q (some (.int (bI P))) (m (cI P s t))) (hp : P) : Q (some (.int 1)) (m s) := by rw [bI_t hp, cI_t hp] at h; exact h
theorem fbn_f {Q : Option Value → Mem → Prop} {P : Prop} {m : MS → Mem} {s t : MS} (h : Q (some (.int (bI P))) (m (cI P s t))) (hp : ¬ P) : Q (some (.int 0)) (m t) := by rw [bI_f hp, cI_f hp] at h; exact h
def fold {α : Type} (f : Nat → α → α) (a : α) : Nat → α
  | 0 => a
  | n + 1 => f n (fold f a n)
def cn (σ : MS) (k : Nat) : Nat := (σ.1 k).toNatClampNeg
def isP (σ : MS) (p : Int32) : Prop := 0 ≤ p ∧ p < σ.1 15
def isL (σ : MS) (l : Int32) : Prop := 0 ≤ l ∧ l < σ.1 16
def isK (σ : MS) (q : Int32) : Prop := 0 ≤ q ∧ q ≤ σ.1 1
def isD (x : Int32) : Prop := 0 ≤ x ∧ x ≤ 1000
def isS (x : Int32) : Prop := 0 ≤ x ∧ x ≤ 9
def isR (x : Int32) : Prop := 0 ≤ x ∧ x ≤ 5
/-- the counts' bounds -/
def mBnd : List (Nat × Nat) := [(1, 1000), (15, 24), (16, 200), (17, 60), (24, 160), (25, 20), (44, 100), (49, 200), (59, 4), (60, 8), (65, 8)]
def Bnd (σ : MS) (k b : Nat) : Prop := σ.1 k = nI (cn σ k) ∧ cn σ k ≤ b
def Cnt (σ : MS) : Prop := ∀ q ∈ mBnd, Bnd σ q.1 q.2
theorem Cnt.b {σ : MS} (h : Cnt σ) (k : Nat) {b : Nat} (hm : (k, b) ∈ mBnd) : σ.1 k = nI (cn σ k) ∧ cn σ k ≤ b := h (k, b) hm
theorem Cnt.th {σ σ0 : MS} (h0 : seti σ 0 0 = σ0) (h : Cnt σ) : Cnt σ0 := by
  subst h0
  intro q hq
  have h1 := h q hq
  have h2 : q.1 ≠ 0 := by
    have : ∀ q ∈ mBnd, q.1 ≠ 0 := by decide
    exact this q hq
  have h3 : (seti σ 0 0).1 q.1 = σ.1 q.1 := updB_ne h2
  unfold Bnd cn at *
  rw [h3]; exact h1
/-- an index below a count -/
theorem in_lt {l c : Int32} {n N : Nat} (h0 : 0 ≤ l) (h1 : l < c) (hc : c = nI n) (hn : n ≤ N) (hN : N < 2 ^ 31) : vp_in l N := by
  rw [vp_in_iff]
  rw [Int32.le_iff_toInt_le, Int32.toInt_zero] at h0
  rw [Int32.lt_iff_toInt_lt, hc, nI_toInt (by omega)] at h1
  omega
theorem of_lt {l c : Int32} {n : Nat} (h0 : 0 ≤ l) (h1 : l < c) (hc : c = nI n) (hN : n < 2 ^ 31) : ∃ j, j < n ∧ l = nI j := by
  have := in_lt h0 h1 hc (Nat.le_refl n) hN
  exact vp_in_of this hN
theorem of_le {l c : Int32} {n : Nat} (h0 : 0 ≤ l) (h1 : l ≤ c) (hc : c = nI n) (hN : n < 2 ^ 31) : ∃ j, j ≤ n ∧ l = nI j :=
  nI_of2 (M := c) (by rw [hc, nI_toInt hN]) (Int32.not_lt.mpr h0) h1
/-- a count that isn't at its bound is an index -/
theorem in_cnt {c v : Int32} {n N : Nat} (hc : c = nI n) (hn : n ≤ N) (hv : v = nI N) (hne : ¬ c = v) (hN : N < 2 ^ 31) : vp_in c N := by
  rw [hc]
  refine vp_in_nI ?_ hN
  have : n ≠ N := fun z => hne (by rw [hc, hv, z])
  omega
theorem add_sub1 (x : Int32) : x + 1 - 1 = x := by rw [Int32.add_sub_cancel]
-- days
def pDays (σ : MS) (n : Int32) : Prop := (0 ≤ n ∧ n ≤ 400) ∧ σ.1 1 + n ≤ 1000
noncomputable def aDays (σ : MS) (n : Int32) : Int32 := cI (pDays σ n) (σ.1 1 + n) (-1)
noncomputable def nDays (σ : MS) (n : Int32) : MS := cI (pDays σ n) (seti σ 1 (σ.1 1 + n)) σ
-- person
def pPerson (σ : MS) (a b c : Int32) : Prop := σ.1 15 ≠ 24 ∧ (0 ≤ a ∧ a ≤ 7) ∧ (10 ≤ b ∧ b ≤ 99) ∧ (0 ≤ c ∧ c ≤ 7)
noncomputable def aPerson (σ : MS) (a b c : Int32) : Int32 := cI (pPerson σ a b c) (σ.1 15) (-1)
noncomputable def nPerson (σ : MS) (a b c : Int32) : MS := cI (pPerson σ a b c) (seti (seta (seta (seta σ 2 (cn σ 15) a) 3 (cn σ 15) b) 4 (cn σ 15) c) 15 (σ.1 15 + 1)) σ
-- stops
def spStop (σ : MS) (p q : Int32) (n : Nat) : Int32 := fold (fun i day => if σ.2 5 i = p ∧ σ.2 7 i ≤ q then σ.2 6 i else day) (-1) n
def pStop (σ : MS) (p day : Int32) : Prop := σ.1 17 ≠ 60 ∧ isP σ p ∧ isD day
noncomputable def aStop (σ : MS) (p day : Int32) : Int32 := bI (pStop σ p day)
noncomputable def nStop (σ : MS) (p day : Int32) : MS := cI (pStop σ p day) (seti (seta (seta (seta σ 5 (cn σ 17) p) 6 (cn σ 17) day) 7 (cn σ 17) (σ.1 1)) 17 (σ.1 17 + 1)) σ
noncomputable def aStopped (σ : MS) (p q : Int32) : Int32 := cI (isP σ p ∧ isK σ q) (spStop σ p q (cn σ 17)) (-1)
def isG (σ : MS) (p day q : Int32) : Prop := spStop σ p q (cn σ 17) ≠ -1 ∧ spStop σ p q (cn σ 17) ≤ day
-- line
def pLine (σ : MS) (p day sort mood say src : Int32) : Prop := σ.1 16 ≠ 200 ∧ isP σ p ∧ (0 ≤ day ∧ day ≤ σ.1 1) ∧ isS sort ∧ (-9 ≤ mood ∧ mood ≤ 9) ∧ (-1 ≤ say ∧ say ≤ 29) ∧ (src = -1 ∨ (isP σ src ∧ src ≠ p ∧ say ≠ -1)) ∧ ¬ isG σ p day (σ.1 1)
noncomputable def aLine (σ : MS) (p day sort mood say src : Int32) : Int32 := cI (pLine σ p day sort mood say src) (σ.1 16) (-1)
noncomputable def nLine (σ : MS) (p day sort mood say src : Int32) : MS := cI (pLine σ p day sort mood say src)
  (seti (seta (seta (seta (seta (seta (seta (seta σ 8 (cn σ 16) p) 9 (cn σ 16) day) 10 (cn σ 16) sort) 11 (cn σ 16) mood) 12 (cn σ 16) say) 13 (cn σ 16) src) 14 (cn σ 16) (σ.1 1)) 16 (σ.1 16 + 1)) σ
-- rules in force
def spRule (σ : MS) (day q : Int32) (n : Nat) : Int32 := fold (fun i best => if σ.2 22 i ≤ q ∧ σ.2 21 i ≤ day ∧ (best = -1 ∨ σ.2 21 best.toNatClampNeg ≤ σ.2 21 i) then nI i else best) (-1) n
noncomputable def aForce (σ : MS) (day q : Int32) : Int32 := cI (isD day ∧ isK σ q) (spRule σ day q (cn σ 25)) (-1)
-- happenings
def pHappen (σ : MS) (a b c : Int32) : Prop := σ.1 44 ≠ 100 ∧ (0 ≤ a ∧ a ≤ 7) ∧ isD b ∧ isS c
noncomputable def aHappen (σ : MS) (a b c : Int32) : Int32 := bI (pHappen σ a b c)
noncomputable def nHappen (σ : MS) (a b c z : Int32) : MS := cI (pHappen σ a b c) (seti (seta (seta (seta (seta (seta σ 38 (cn σ 44) a) 39 (cn σ 44) b) 40 (cn σ 44) c) 42 (cn σ 44) (z &&& 1)) 41 (cn σ 44) (σ.1 1)) 44 (σ.1 44 + 1)) σ
def isLB (σ : MS) (l q : Int32) : Prop := isL σ l ∧ isK σ q ∧ σ.2 14 l.toNatClampNeg ≤ q
def spTruth (σ : MS) (l : Nat) (q : Int32) (n : Nat) : Int32 := fold (fun i is => if σ.2 41 i ≤ q ∧ σ.2 38 i = σ.2 2 (σ.2 8 l).toNatClampNeg ∧ σ.2 39 i = σ.2 9 l ∧ σ.2 40 i = σ.2 10 l then (if σ.2 42 i = 0 then 0 else 1) else is) 2 n
noncomputable def aTruth (σ : MS) (l q : Int32) : Int32 := cI (isLB σ l q) (spTruth σ l.toNatClampNeg q (cn σ 44)) (-1)
-- words
def spWord (σ : MS) (p say q : Int32) (n : Nat) : Int32 := fold (fun i best => if σ.2 8 i = p ∧ σ.2 12 i = say ∧ σ.2 14 i ≤ q ∧ (best = -1 ∨ σ.2 9 i < σ.2 9 best.toNatClampNeg) then nI i else best) (-1) n
def spBear (σ : MS) (say q : Int32) (n : Nat) : Int32 := fold (fun i c => if spWord σ (nI i) say q (cn σ 16) = -1 then c else c + 1) 0 n
noncomputable def aBear (σ : MS) (say q : Int32) : Int32 := cI ((0 ≤ say ∧ say ≤ 29) ∧ isK σ q) (spBear σ say q (cn σ 15)) (-1)
-- marks
def pMark (σ : MS) (r l v : Int32) : Prop := σ.1 49 ≠ 200 ∧ isR r ∧ isL σ l ∧ (0 ≤ v ∧ v ≤ 9)
noncomputable def aMark (σ : MS) (r l v : Int32) : Int32 := bI (pMark σ r l v)
noncomputable def nMark (σ : MS) (r l v : Int32) : MS := cI (pMark σ r l v) (seti (seta (seta (seta (seta σ 45 (cn σ 49) r) 46 (cn σ 49) l) 47 (cn σ 49) v) 48 (cn σ 49) (σ.1 1)) 49 (σ.1 49 + 1)) σ
def spMark (σ : MS) (r l q : Int32) (n : Nat) : Int32 := fold (fun i is => if σ.2 45 i = r ∧ σ.2 46 i = l ∧ σ.2 48 i ≤ q then σ.2 47 i else is) (-1) n
def mk (σ : MS) (q : Int32) (r : Int32) (l : Nat) : Int32 := spMark σ r (nI l) q (cn σ 49)
noncomputable def aMarked (σ : MS) (r l q : Int32) : Int32 := cI (isR r ∧ isL σ l ∧ isK σ q) (spMark σ r l q (cn σ 49)) (-1)
def spAgree (σ : MS) (one other q what : Int32) (n : Nat) : Int32 := fold (fun i c => if mk σ q one i ≠ -1 ∧ mk σ q other i ≠ -1 ∧ (what = 1 ∨ mk σ q one i = mk σ q other i) then c + 1 else c) 0 n
noncomputable def aAgree (σ : MS) (one other q what : Int32) : Int32 := cI (isR one ∧ isR other ∧ ¬ one = other ∧ isK σ q ∧ (0 ≤ what ∧ what ≤ 1)) (spAgree σ one other q what (cn σ 16)) (-1)
def spHab1 (σ : MS) (reader q : Int32) (l : Nat) (st : Int32 × Int32) (n : Nat) : Int32 × Int32 := fold (fun r s => if nI r ≠ reader ∧ mk σ q (nI r) l ≠ -1 ∧ mk σ q reader l ≠ -1 then (s.1 + (mk σ q reader l - mk σ q (nI r) l), s.2 + 1) else s) st n
def spHab (σ : MS) (reader q : Int32) (n : Nat) : Int32 × Int32 := fold (fun l s => spHab1 σ reader q l s 6) (0, 0) n
noncomputable def aHabit (σ : MS) (reader q : Int32) : Int32 := cI (isR reader ∧ isK σ q) (if (spHab σ reader q (cn σ 16)).2 = 0 then 0 else 1000 * (spHab σ reader q (cn σ 16)).1 / (spHab σ reader q (cn σ 16)).2) (-1000000)
def spHav (σ : MS) (q v : Int32) (l : Nat) (n : Nat) : Int32 := fold (fun r c => if mk σ q (nI r) l = v then c + 1 else c) 0 n
def spHeld (σ : MS) (q : Int32) (l : Nat) (n : Nat) : Int32 × Int32 := fold (fun v s => if s.2 < spHav σ q (nI v) l 6 then (nI v, spHav σ q (nI v) l 6) else s) (-1, 1) n
noncomputable def aHeld (σ : MS) (l q : Int32) : Int32 := cI (isLB σ l q) (spHeld σ q l.toNatClampNeg 10).1 (-1)
-- land
def pLand (a b c : Int32) : Prop := (0 ≤ a ∧ a ≤ 7) ∧ (0 ≤ b ∧ b ≤ 3) ∧ (0 ≤ c ∧ c ≤ 9999)
noncomputable def aLand (a b c : Int32) : Int32 := bI (pLand a b c)
noncomputable def nLand (σ : MS) (a b c : Int32) : MS := cI (pLand a b c) (seta σ 50 (4 * a + b).toNatClampNeg c) σ
def spPeople (σ : MS) (n : Nat) : Int32 := fold (fun i s => s + σ.2 50 i) 0 n
-- moods
def spMood (σ : MS) (day q : Int32) (n : Nat) : Int32 × Int32 := fold (fun i s => if σ.2 9 i = day ∧ σ.2 14 i ≤ q then (s.1 + σ.2 11 i, s.2 + 1) else s) (0, 0) n
noncomputable def aMood (σ : MS) (day q what : Int32) : Int32 := cI (isD day ∧ isK σ q ∧ (0 ≤ what ∧ what ≤ 1)) (if what = 0 then (spMood σ day q (cn σ 16)).1 else (spMood σ day q (cn σ 16)).2) (-1000000)
-- last lines
def spLast (σ : MS) (p q : Int32) (n : Nat) : Int32 := fold (fun i best => if σ.2 8 i = p ∧ σ.2 14 i ≤ q ∧ (best = -1 ∨ σ.2 9 best.toNatClampNeg ≤ σ.2 9 i) then nI i else best) (-1) n
noncomputable def aLast (σ : MS) (p q : Int32) : Int32 := cI (isP σ p ∧ isK σ q) (spLast σ p q (cn σ 16)) (-1)
-- watchers, wanted, questions
def pWatch (σ : MS) (a b : Int32) : Prop := σ.1 59 ≠ 4 ∧ (0 ≤ a ∧ a ≤ 23) ∧ (a ≤ b ∧ b ≤ 23)
noncomputable def aWatch (σ : MS) (a b : Int32) : Int32 := cI (pWatch σ a b) (σ.1 59) (-1)
noncomputable def nWatch (σ : MS) (a b : Int32) : MS := cI (pWatch σ a b) (seti (seta (seta σ 53 (cn σ 59) a) 54 (cn σ 59) b) 59 (σ.1 59 + 1)) σ
def pWant (σ : MS) (a b : Int32) : Prop := σ.1 60 ≠ 8 ∧ (0 ≤ a ∧ a ≤ 7) ∧ (0 ≤ b ∧ b ≤ 23)
noncomputable def aWant (σ : MS) (a b : Int32) : Int32 := cI (pWant σ a b) (σ.1 60) (-1)
noncomputable def nWant (σ : MS) (a b : Int32) : MS := cI (pWant σ a b) (seti (seta (seta σ 55 (cn σ 60) a) 56 (cn σ 60) b) 60 (σ.1 60 + 1)) σ
def pQuest (σ : MS) (a b : Int32) : Prop := σ.1 65 ≠ 8 ∧ (1 ≤ a ∧ a ≤ 50) ∧ (0 ≤ b ∧ b ≤ 1023)
noncomputable def aQuest (σ : MS) (a b : Int32) : Int32 := cI (pQuest σ a b) (σ.1 65) (-1)
noncomputable def nQuest (σ : MS) (a b : Int32) : MS := cI (pQuest σ a b) (seti (seta (seta σ 62 (cn σ 65) a) 63 (cn σ 65) b) 65 (σ.1 65 + 1)) σ
-- numbers
def iabs (x : Int32) : Int32 := if 0 ≤ x then x else -x
def labs (x : Int64) : Int64 := if 0 ≤ lg_cmp x 0 then x else -x
def bc1 (x : Int32) : Int32 := x - ((x.toUInt32 >>> ((1 : Int32).toUInt32 &&& Int32.toUInt32 31)).toInt32 &&& 1431655765)
def bc2 (x : Int32) : Int32 := (x &&& 858993459) + ((x.toUInt32 >>> ((2 : Int32).toUInt32 &&& Int32.toUInt32 31)).toInt32 &&& 858993459)
def bc3 (x : Int32) : Int32 := (x + (x.toUInt32 >>> ((4 : Int32).toUInt32 &&& Int32.toUInt32 31)).toInt32) &&& 252645135
def bc4 (x : Int32) : Int32 := x + (x.toUInt32 >>> ((8 : Int32).toUInt32 &&& Int32.toUInt32 31)).toInt32
def bc5 (x : Int32) : Int32 := x + (x.toUInt32 >>> ((16 : Int32).toUInt32 &&& Int32.toUInt32 31)).toInt32
/-- how many bits (as the machine counts them) -/
def bitc (x : Int32) : Int32 := bc5 (bc4 (bc3 (bc2 (bc1 x)))) &&& 63
-- the tape
def spBytes (v : Int32) (n : Nat) : Int32 := fold (fun i c => if (v >>> ((nI (24 - 8 * i)) &&& 31)) &&& 255 = 0 then c else c + 1) 0 n
def putS (v : Int32) (n : Nat) (σ : MS) : MS := fold (fun i s => if (v >>> ((nI (24 - 8 * i)) &&& 31)) &&& 255 = 0 then s else seti (seta s 18 (cn s 24) ((v >>> ((nI (24 - 8 * i)) &&& 31)).toInt8.toInt32).toInt8.toInt32) 24 (s.1 24 + 1)) σ n
def fedTo (σ : MS) (a b c d e : Int32) : Int32 := σ.1 24 + spBytes a 4 + spBytes b 4 + spBytes c 4 + spBytes d 4 + spBytes e 4
noncomputable def nFeed (σ : MS) (a b c d e : Int32) : MS := cI (fedTo σ a b c d e ≤ 160) (putS e 4 (putS d 4 (putS c 4 (putS b 4 (putS a 4 σ))))) σ
noncomputable def aFeed (σ : MS) (a b c d e : Int32) : Int32 := cI (fedTo σ a b c d e ≤ 160) ((putS e 4 (putS d 4 (putS c 4 (putS b 4 (putS a 4 σ))))).1 24) (-1)
def pEnd (σ : MS) (n : Int32) : Prop := 0 ≤ n ∧ n ≤ σ.1 24
noncomputable def aEnd (σ : MS) (n : Int32) : Int32 := bI (pEnd σ n)
noncomputable def nEnd (σ : MS) (n : Int32) : MS := cI (pEnd σ n) (seti σ 24 n) σ
-- who is known
def strat (a : Int32) : Int32 := if a < 25 then 0 else if a < 45 then 1 else if a < 65 then 2 else 3
def like (σ : MS) (p o : Nat) (by' : Int32) : Prop := (by' &&& 1 = 0 ∨ σ.2 2 o = σ.2 2 p) ∧ (by' &&& 2 = 0 ∨ strat (σ.2 3 o) = strat (σ.2 3 p)) ∧ (by' &&& 4 = 0 ∨ σ.2 4 o = σ.2 4 p)
noncomputable def spAlike (σ : MS) (p : Nat) (by' : Int32) (n : Nat) : Int32 := fold (fun o c => cI (like σ p o by') (c + 1) c) 0 n
noncomputable def aAlike (σ : MS) (p by' : Int32) : Int32 := cI (isP σ p ∧ (0 ≤ by' ∧ by' ≤ 7)) (spAlike σ p.toNatClampNeg by' (cn σ 15)) (-1)
/-- all have m alike by these -/
def allA (σ : MS) (m by' : Int32) (n : Nat) : Prop := ∀ p, p < n → m ≤ spAlike σ p by' (cn σ 15)
noncomputable def spHide (σ : MS) (m : Int32) (n : Nat) : Int32 := fold (fun i best => cI (allA σ m (7 &&& (nI i ^^^ -1)) (cn σ 15) ∧ (best = -1 ∨ bitc (nI i) < bitc best)) (nI i) best) (-1) n
noncomputable def aHide (σ : MS) (m : Int32) : Int32 := cI (1 ≤ m) (spHide σ m 8) (-1)
-- questions
def spPrice (σ : MS) (set : Int32) (n : Nat) : Int32 := fold (fun i c => if (set >>> (nI i &&& 31)) &&& 1 = 1 then c + σ.2 62 i else c) 0 n
def spSortB (σ : MS) (set : Int32) (n : Nat) : Int32 := fold (fun i c => if (set >>> (nI i &&& 31)) &&& 1 = 1 then c ||| σ.2 63 i else c) 0 n
def spSorts (σ : MS) (set : Int32) : Int32 := bitc (spSortB σ set (cn σ 65))
def pJudge (σ : MS) (set coin : Int32) : Prop := 0 ≤ set ∧ set < 1 <<< (σ.1 65 &&& 31) ∧ (0 ≤ coin ∧ coin ≤ 400)
noncomputable def aJudge (σ : MS) (set coin : Int32) : Int32 := cI (pJudge σ set coin) (if coin < spPrice σ set (cn σ 65) then -1 else spSorts σ set) (-2)
/-- set is better than best -/
def bett (σ : MS) (set best : Int32) : Prop :=
  let m0 := spSorts σ set - spSorts σ best
  let m := if m0 = 0 then spPrice σ best (cn σ 65) - spPrice σ set (cn σ 65) else m0
  0 < m ∨ (m = 0 ∧ set &&& ((set ^^^ best) &&& -(set ^^^ best)) ≠ 0)
noncomputable def spBuy (σ : MS) (coin : Int32) (n : Nat) : Int32 := fold (fun i best => cI (spPrice σ (nI (i + 1)) (cn σ 65) ≤ coin ∧ bett σ (nI (i + 1)) best) (nI (i + 1)) best) 0 n
noncomputable def aBuy (σ : MS) (coin : Int32) : Int32 := cI (0 ≤ coin ∧ coin ≤ 400) (spBuy σ coin (2 ^ cn σ 65 - 1)) (-1)
-- leanings
noncomputable def spLean (σ : MS) (sort q : Int32) (n : Nat) : (Int32 × Int32) × (Int32 × Int32) := fold (fun i s =>
  if spLast σ (nI i) q (cn σ 16) = -1 then s else
  let so : Int32 := if σ.2 10 (spLast σ (nI i) q (cn σ 16)).toNatClampNeg = sort then 1 else 0
  cI (isG σ (nI i) q q) ((s.1.1 + 1, s.1.2 + so), s.2) (s.1, (s.2.1 + 1, s.2.2 + so))) ((0, 0), (0, 0)) n
noncomputable def aLean (σ : MS) (sort q : Int32) : Int32 := cI (isS sort ∧ isK σ q)
  (if (spLean σ sort q (cn σ 15)).1.1 = 0 ∨ (spLean σ sort q (cn σ 15)).2.1 = 0 then -1000000 else 1000 * (spLean σ sort q (cn σ 15)).1.2 / (spLean σ sort q (cn σ 15)).1.1 - 1000 * (spLean σ sort q (cn σ 15)).2.2 / (spLean σ sort q (cn σ 15)).2.1) (-1000000)
noncomputable def spGone (σ : MS) (n : Nat) : Int32 := fold (fun i c => cI (isG σ (nI i) (σ.1 1) (σ.1 1)) (c + 1) c) 0 n
noncomputable def aCount (σ : MS) (w : Int32) : Int32 := if w = 0 then σ.1 1 else if w = 1 then σ.1 15 else if w = 2 then σ.1 16 else if w = 3 then σ.1 25 else if w = 4 then σ.1 44 else if w = 5 then σ.1 49 else if w = 6 then σ.1 59 else if w = 7 then σ.1 60 else if w = 8 then σ.1 65 else if w = 9 then σ.1 24 else if w = 10 then spGone σ (cn σ 15) else if w = 11 then spPeople σ 32 else -1
/-- how many bytes of v, of n looked at, are kept -/
def nB (v : Int32) (n : Nat) : Nat := fold (fun i c => if (v >>> ((nI (24 - 8 * i)) &&& 31)) &&& 255 = 0 then c else c + 1) 0 n
theorem nB_le (v : Int32) : ∀ n, nB v n ≤ n
  | 0 => Nat.le_refl 0
  | n + 1 => by
    have e : nB v (n + 1) = if (v >>> ((nI (24 - 8 * n)) &&& 31)) &&& 255 = 0 then nB v n else nB v n + 1 := rfl
    have := nB_le v n
    rw [e]; split <;> omega
theorem spBytes_n (v : Int32) : ∀ n, spBytes v n = nI (nB v n)
  | 0 => rfl
  | n + 1 => by
    have e : nB v (n + 1) = if (v >>> ((nI (24 - 8 * n)) &&& 31)) &&& 255 = 0 then nB v n else nB v n + 1 := rfl
    have e2 : spBytes v (n + 1) = if (v >>> ((nI (24 - 8 * n)) &&& 31)) &&& 255 = 0 then spBytes v n else spBytes v n + 1 := rfl
    rw [e, e2, spBytes_n v n]
    split
    · rfl
    · rw [nI_1]
theorem putS_len (v : Int32) (σ : MS) {m : Nat} (h : σ.1 24 = nI m) : ∀ n, (putS v n σ).1 24 = nI (m + nB v n)
  | 0 => h
  | n + 1 => by
    have e : nB v (n + 1) = if (v >>> ((nI (24 - 8 * n)) &&& 31)) &&& 255 = 0 then nB v n else nB v n + 1 := rfl
    have e2 : putS v (n + 1) σ = if (v >>> ((nI (24 - 8 * n)) &&& 31)) &&& 255 = 0 then putS v n σ else seti (seta (putS v n σ) 18 (cn (putS v n σ) 24) ((v >>> ((nI (24 - 8 * n)) &&& 31)).toInt8.toInt32).toInt8.toInt32) 24 ((putS v n σ).1 24 + 1) := rfl
    rw [e, e2]
    split
    · exact putS_len v σ h n
    · show (putS v n σ).1 24 + 1 = _
      rw [putS_len v σ h n, nI_1]; rfl
theorem fedTo_n {σ : MS} {m : Nat} (h : σ.1 24 = nI m) (a b c d e : Int32) : fedTo σ a b c d e = nI (m + nB a 4 + nB b 4 + nB c 4 + nB d 4 + nB e 4) := by
  unfold fedTo
  rw [h, spBytes_n, spBytes_n, spBytes_n, spBytes_n, spBytes_n, nI_add, nI_add, nI_add, nI_add, nI_add]
-- told
def vTold (σ : MS) (l : Nat) (w : Int32) : Int32 := if w = 0 then σ.2 8 l else if w = 1 then σ.2 9 l else if w = 2 then σ.2 10 l else if w = 3 then σ.2 11 l else if w = 4 then σ.2 12 l else if w = 5 then σ.2 13 l else σ.2 14 l
def pTold (σ : MS) (l w : Int32) : Prop := isL σ l ∧ (0 ≤ w ∧ w ≤ 6)
-- the table of watchers
abbrev TT : Type := (Nat → Int32) × (Nat → Int32) × Int32
def clash (σ : MS) (one k : Nat) : Prop := iabs (σ.2 56 one - σ.2 56 k) = 0 ∨ (iabs (σ.2 56 one - σ.2 56 k) < 2 ∧ ¬ σ.2 55 one = σ.2 55 k)
def mayS (σ : MS) (tr : Nat → Int32) (w one : Nat) : Prop := (σ.2 53 w ≤ σ.2 56 one ∧ σ.2 56 one ≤ σ.2 54 w) ∧ ∀ k, k < one → ¬ (tr k = nI w ∧ clash σ one k)
def cpyN (n : Nat) (f g : Nat → Int32) : Nat → Int32 := fold (fun i h => updB h i (f i)) g n
noncomputable def tryT (σ : MS) : Nat → Nat → Nat → TT → TT
  | 0, one, seen, t => cI (nI seen + σ.1 60 - nI one ≤ t.2.2) t (t.1, cpyN (cn σ 60) t.1 t.2.1, nI seen)
  | f + 1, one, seen, t => cI (nI seen + σ.1 60 - nI one ≤ t.2.2) t
      (let t1 := fold (fun w s => cI (mayS σ s.1 w one) (tryT σ f (one + 1) (seen + 1) (updB s.1 one (nI w), s.2)) s) t (cn σ 59)
       tryT σ f (one + 1) seen (updB t1.1 one (-1), t1.2))
/-- a state with these scratch rows of the table -/
def wT (σ : MS) (t : TT) : MS := (updB σ.1 61 t.2.2, fun k => bif Nat.beq k 57 then t.1 else bif Nat.beq k 58 then t.2.1 else σ.2 k)
theorem wT_57 {σ : MS} {t : TT} {i : Nat} {v : Int32} : seta (wT σ t) 57 i v = wT σ (updB t.1 i v, t.2) := by
  unfold seta wT
  refine Prod.ext rfl ?_
  funext k
  cases e : Nat.beq k 57 with
  | true => rw [Nat.eq_of_beq_eq_true e]; rfl
  | false =>
    show (bif Nat.beq k 57 then _ else (bif Nat.beq k 57 then t.1 else bif Nat.beq k 58 then t.2.1 else σ.2 k)) = (bif Nat.beq k 57 then _ else bif Nat.beq k 58 then t.2.1 else σ.2 k)
    rw [e]; rfl
theorem wT_58 {σ : MS} {t : TT} {i : Nat} {v : Int32} : seta (wT σ t) 58 i v = wT σ (t.1, updB t.2.1 i v, t.2.2) := by
  unfold seta wT
  refine Prod.ext rfl ?_
  funext k
  cases e : Nat.beq k 58 with
  | false =>
    show (bif Nat.beq k 58 then _ else (bif Nat.beq k 57 then t.1 else bif Nat.beq k 58 then t.2.1 else σ.2 k)) = (bif Nat.beq k 57 then t.1 else bif Nat.beq k 58 then updB t.2.1 i v else σ.2 k)
    rw [e]; rfl
  | true =>
    have h : k = 58 := Nat.eq_of_beq_eq_true e
    subst h
    rfl
theorem wT_61 {σ : MS} {t : TT} {v : Int32} : seti (wT σ t) 61 v = wT σ (t.1, t.2.1, v) := by
  unfold seti wT
  refine Prod.ext ?_ rfl
  funext k
  show (bif Nat.beq k 61 then v else bif Nat.beq k 61 then t.2.2 else σ.1 k) = (bif Nat.beq k 61 then v else σ.1 k)
  cases e : Nat.beq k 61 <;> rfl
theorem wT_self {σ : MS} : wT σ (σ.2 57, σ.2 58, σ.1 61) = σ := by
  refine Prod.ext ?_ ?_
  · funext k
    show (bif Nat.beq k 61 then σ.1 61 else σ.1 k) = σ.1 k
    cases e : Nat.beq k 61 with
    | false => rfl
    | true => rw [Nat.eq_of_beq_eq_true e]; rfl
  · funext k
    show (bif Nat.beq k 57 then σ.2 57 else bif Nat.beq k 58 then σ.2 58 else σ.2 k) = σ.2 k
    cases e : Nat.beq k 57 with
    | true => rw [Nat.eq_of_beq_eq_true e]; rfl
    | false =>
      cases e2 : Nat.beq k 58 with
      | true => rw [Nat.eq_of_beq_eq_true e2]; rfl
      | false => rfl
-- lots
def lotN (x : Int64) : Int64 := x * 6364136223846793005 + 1442695040888963407
/-- seed's row: the number, those not drawn yet, those drawn -/
def lotS (np : Nat) (seed : Int64) : Nat → Int64 × List Nat × List Nat
  | 0 => (seed, List.range np, [])
  | k + 1 =>
    let s := lotS np seed k
    let x := lotN s.1
    let j := (x.toUInt64 >>> 33).toNat % s.2.1.length
    (x, s.2.1.eraseIdx j, s.2.2 ++ [s.2.1.getD j 0])
-- ways back
def wayS (σ : MS) (say q : Int32) : Nat → Int32 → List Int32 → Int32 → Int32 × Int32 × Int32
  | 0, is, _, steps => (is, 0, steps)
  | f + 1, is, met, steps =>
    let word := spWord σ is say q (cn σ 16)
    let src := σ.2 13 word.toNatClampNeg
    if src = -1 then (is, 0, steps)
    else if spWord σ src say q (cn σ 16) = -1 ∨ σ.2 9 word.toNatClampNeg < σ.2 9 (spWord σ src say q (cn σ 16)).toNatClampNeg then (is, 1, steps)
    else if src ∈ is :: met then (src, 2, steps + 1)
    else wayS σ say q f src (is :: met) (steps + 1)
def pWay (σ : MS) (p say q what : Int32) : Prop := isP σ p ∧ (0 ≤ say ∧ say ≤ 29) ∧ isK σ q ∧ (0 ≤ what ∧ what ≤ 2) ∧ ¬ spWord σ p say q (cn σ 16) = -1
noncomputable def aWay (σ : MS) (p say q what : Int32) : Int32 := cI (pWay σ p say q what)
  (if what = 0 then (wayS σ say q 25 p [] 0).1 else if what = 1 then (wayS σ say q 25 p [] 0).2.1 else (wayS σ say q 25 p [] 0).2.2) (-1)
