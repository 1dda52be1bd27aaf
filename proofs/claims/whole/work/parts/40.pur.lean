/-! WHAT A TEXT'S CODES ARE WORTH, and that the reader's codes are good ones -/
/-- two numbers joined by a sign -/
def jn (c l r : Int32) : Int32 := if c = 43 then lBound (l.toInt64 + r.toInt64) else if c = 45 then lBound (l.toInt64 - r.toInt64) else if c = 42 then lBound (l.toInt64 * r.toInt64) else if c = 47 then lBound (if r = 0 then 0 else l / r : Int32).toInt64 else if c = 61 then (if l = r then 1 else 0) else if c = 60 then (if l < r then 1 else 0) else if c = 62 then (if r < l then 1 else 0) else if c = 38 then lBound (l &&& r).toInt64 else lBound (l ||| r).toInt64
def isLet (c : Int32) : Bool := pLetters.any (fun l => decide (c = l))
def stp (L : Int32 → Int32) (c : Int32) (st : List Int32) : List Int32 :=
  if 0 ≤ c then c :: st else if isLet (-c) then L (-c) :: st else if c = -33 then (match st with
    | v :: t => (if v = 0 then 1 else 0) :: t
    | [] => [1]) else (match st with
    | r :: l :: t => jn (-c) l r :: t
    | [r] => [jn (-c) 0 r]
    | [] => [jn (-c) 0 0])
def rnL (L : Int32 → Int32) : List Int32 → List Int32 → List Int32
  | [], st => st
  | c :: t, st => rnL L t (stp L c st)
theorem rnL_app (L : Int32 → Int32) : ∀ (a b st : List Int32), rnL L (a ++ b) st = rnL L b (rnL L a st)
  | [], _, _ => rfl
  | c :: t, b, st => rnL_app L t b (stp L c st)
def vl (L : Int32 → Int32) (cs : List Int32) : Int32 := (rnL L cs []).headD 0
def bd6 (x : Int32) : Prop := -1000000 ≤ x ∧ x ≤ 1000000
theorem bd6_i {x : Int32} : bd6 x ↔ -1000000 ≤ x.toInt ∧ x.toInt ≤ 1000000 := by
  unfold bd6
  rw [Int32.le_iff_toInt_le, Int32.le_iff_toInt_le]
  exact Iff.rfl
theorem l32_in {x : Int64} (h1 : -1000000 ≤ x.toInt) (h2 : x.toInt ≤ 1000000) : bd6 x.toInt32 := by
  rw [bd6_i, Int64.toInt_toInt32]
  have e8 : ((2 ^ 32 : Nat) : Int) = 4294967296 := rfl
  simp only [Int.bmod, e8]
  split <;> omega
theorem lBound_in (x : Int64) : bd6 (lBound x) := by
  have e1 : (-1000000 : Int64).toInt = -1000000 := rfl
  have e2 : (1000000 : Int64).toInt = 1000000 := rfl
  unfold lBound
  have h1 : (if 0 < lg_cmp 1000000 x then x else 1000000 : Int64).toInt ≤ 1000000 := by
    split
    · rename_i h
      rw [lg_cmp_gt, Int64.lt_iff_toInt_lt, e2] at h
      omega
    · rw [e2]; exact Int.le_refl _
  by_cases h : lg_cmp (-1000000) (if 0 < lg_cmp 1000000 x then x else 1000000) < 0
  · rw [if_pos h]
    rw [lg_cmp_lt, Int64.lt_iff_toInt_lt, e1] at h
    exact l32_in (Int.le_of_lt h) h1
  · rw [if_neg h]
    exact ⟨by decide, by decide⟩
theorem bd6_01 {x : Int32} (h : x = 0 ∨ x = 1) : bd6 x := by rcases h with h | h <;> subst h <;> exact ⟨by decide, by decide⟩
theorem div_64 {l r : Int32} (hl : bd6 l) : lBound (if lg_cmp r.toInt64 0 = 0 then 0 else l.toInt64 / r.toInt64) = lBound (if r = 0 then 0 else l / r : Int32).toInt64 := by
  have e0 : lg_cmp r.toInt64 0 = 0 ↔ r = 0 := by
    rw [lg_cmp_eq, ← Int64.toInt_inj, ← Int32.toInt_inj, Int32.toInt_toInt64]
    exact Iff.rfl
  by_cases z : r = 0
  · rw [if_pos (e0.mpr z), if_pos z]; rfl
  · rw [if_neg (fun y => z (e0.mp y)), if_neg z]
    congr 1
    have hl' := bd6_i.mp hl
    have h1 : l ≠ Int32.minValue := by
      intro y
      rw [y] at hl'
      have : Int32.minValue.toInt = -2147483648 := by decide
      omega
    have h2 : l.toInt64 ≠ Int64.minValue := by
      intro y
      have y2 := congrArg Int64.toInt y
      rw [Int32.toInt_toInt64] at y2
      have : Int64.minValue.toInt = -9223372036854775808 := by decide
      omega
    rw [← Int64.toInt_inj, Int64.toInt_div_of_ne_left _ _ h2, Int32.toInt_toInt64, Int32.toInt_toInt64, Int32.toInt_toInt64, Int32.toInt_div_of_ne_left _ _ h1]
def isAr (c : Int32) : Prop := c = 43 ∨ c = 45 ∨ c = 42 ∨ c = 47
theorem jn_ar {c l r : Int32} (h : isAr c) : bd6 (jn c l r) := by
  rcases h with h | h | h | h <;> subst h <;> exact lBound_in _
theorem jn_rel {c l r : Int32} (h : c = 61 ∨ c = 60 ∨ c = 62) : jn c l r = 0 ∨ jn c l r = 1 := by
  rcases h with h | h | h <;> subst h
  · show (if l = r then (1 : Int32) else 0) = 0 ∨ (if l = r then (1 : Int32) else 0) = 1
    split
    · exact Or.inr rfl
    · exact Or.inl rfl
  · show (if l < r then (1 : Int32) else 0) = 0 ∨ (if l < r then (1 : Int32) else 0) = 1
    split
    · exact Or.inr rfl
    · exact Or.inl rfl
  · show (if r < l then (1 : Int32) else 0) = 0 ∨ (if r < l then (1 : Int32) else 0) = 1
    split
    · exact Or.inr rfl
    · exact Or.inl rfl
def v01 (x : Int32) : Prop := x = 0 ∨ x = 1
theorem jn_and {l r : Int32} (hl : v01 l) (hr : v01 r) : v01 (jn 38 l r) := by
  rcases hl with h | h <;> rcases hr with h2 | h2 <;> subst h <;> subst h2 <;> first | exact Or.inl (by decide) | exact Or.inr (by decide)
theorem jn_or {l r : Int32} (hl : v01 l) (hr : v01 r) : v01 (jn 124 l r) := by
  rcases hl with h | h <;> rcases hr with h2 | h2 <;> subst h <;> subst h2 <;> first | exact Or.inl (by decide) | exact Or.inr (by decide)
/-- the signs that join -/
def isJn (c : Int32) : Prop := c = 43 ∨ c = 45 ∨ c = 42 ∨ c = 47 ∨ c = 61 ∨ c = 60 ∨ c = 62 ∨ c = 38 ∨ c = 124
theorem stp_jn (L : Int32 → Int32) {c : Int32} (h : isJn c) (l r : Int32) (st : List Int32) : stp L (-c) (r :: l :: st) = jn c l r :: st := by
  unfold stp
  rcases h with h | h | h | h | h | h | h | h | h <;> subst h <;> rw [if_neg (by decide), if_neg (by decide), if_neg (by decide)] <;> rfl
theorem stp_not (L : Int32 → Int32) (v : Int32) (st : List Int32) : stp L (-33) (v :: st) = (if v = 0 then 1 else 0) :: st := by
  unfold stp
  rw [if_neg (by decide), if_neg (by decide), if_pos (by decide)]
theorem stp_num (L : Int32 → Int32) {v : Int32} (h : 0 ≤ v) (st : List Int32) : stp L v st = v :: st := if_pos h
theorem let_mem {c : Int32} (h : isLet c = true) : c = 97 ∨ c = 112 ∨ c = 119 ∨ c = 116 ∨ c = 107 ∨ c = 109 ∨ c = 101 ∨ c = 114 := by
  unfold isLet pLetters at h
  simpa using h
theorem stp_let (L : Int32 → Int32) {c : Int32} (h : isLet c = true) (st : List Int32) : stp L (-c) st = L c :: st := by
  have e : - -c = c := Int32.neg_neg
  unfold stp
  rw [e, if_pos h]
  rcases let_mem h with h | h | h | h | h | h | h | h <;> subst h <;> exact if_neg (by decide)
/-- a code that no clause begins or ends with -/
def okc (c : Int32) : Prop := ¬ c = -113 ∧ ¬ c = -115 ∧ ¬ c = -100 ∧ ¬ c = -59 ∧ ¬ c = -63
theorem okc_jn {c : Int32} (h : isJn c) : okc (-c) := by
  rcases h with h | h | h | h | h | h | h | h | h <;> subst h <;> exact ⟨by decide, by decide, by decide, by decide, by decide⟩
theorem okc_let {c : Int32} (h : isLet c = true) : okc (-c) := by
  rcases let_mem h with h | h | h | h | h | h | h | h <;> subst h <;> exact ⟨by decide, by decide, by decide, by decide, by decide⟩
theorem okc_num {c : Int32} (h : 0 ≤ c) : okc c := by
  refine ⟨?_, ?_, ?_, ?_, ?_⟩ <;> (intro z; subst z; exact absurd h (by decide))
def Gd (n : Nat) (L : Int32 → Int32) (V : Int32 → Prop) (p : Nat) (x : PR) : Prop := (∀ q cs, x = .ok (q, cs) → p + cs.length ≤ q ∧ q ≤ n ∧ (∀ c ∈ cs, okc c) ∧ V (vl L cs) ∧ ∀ st, rnL L cs st = vl L cs :: st) ∧ ∀ e, x = .error e → e ≤ n
theorem Gd_ok {n : Nat} {L : Int32 → Int32} {V : Int32 → Prop} {p q : Nat} {cs : List Int32} {w : Int32} (h1 : p + cs.length ≤ q) (h2 : q ≤ n) (h3 : ∀ c ∈ cs, okc c) (h4 : V w) (h5 : ∀ st, rnL L cs st = w :: st) : Gd n L V p (.ok (q, cs)) := by
  refine ⟨fun q' cs' e => ?_, fun e h => by cases h⟩
  cases e
  have e : vl L cs = w := by unfold vl; rw [h5]; rfl
  rw [e]
  exact ⟨h1, h2, h3, h4, h5⟩
theorem Gd_er {n : Nat} {L : Int32 → Int32} {V : Int32 → Prop} {p e : Nat} (h : e ≤ n) : Gd n L V p (.error e) := ⟨fun q cs z => (by cases z), fun e' z => (by cases z; exact h)⟩
theorem Gd_lo {n : Nat} {L : Int32 → Int32} {V : Int32 → Prop} {p p' : Nat} {x : PR} (h : Gd n L V p' x) (hp : p ≤ p') : Gd n L V p x :=
  ⟨fun q cs e => ⟨by have := (h.1 q cs e).1; omega, (h.1 q cs e).2⟩, h.2⟩
theorem Gd_V {n : Nat} {L : Int32 → Int32} {V V' : Int32 → Prop} {p : Nat} {x : PR} (h : Gd n L V p x) (hV : ∀ w, V w → V' w) : Gd n L V' p x :=
  ⟨fun q cs e => by obtain ⟨a, b, c, d, f⟩ := h.1 q cs e; exact ⟨a, b, c, hV _ d, f⟩, h.2⟩
theorem skF_bd (b : Nat → Int32) : ∀ (f p : Nat), p ≤ skF b f p ∧ skF b f p ≤ p + f
  | 0, p => ⟨Nat.le_refl _, Nat.le_refl _⟩
  | f + 1, p => by
    unfold skF
    have := skF_bd b f (p + 1)
    split <;> omega
theorem sk_ge {b : Nat → Int32} {n p : Nat} : p ≤ sk b n p := (skF_bd b (n - p) p).1
theorem sk_le {b : Nat → Int32} {n p : Nat} (h : p ≤ n) : sk b n p ≤ n := by have := (skF_bd b (n - p) p).2; unfold sk; omega
theorem lk_lt {b : Nat → Int32} {n p : Nat} (h : ¬ lk b n p = -1) : sk b n p < n := by
  unfold lk at h
  by_cases z : sk b n p < n
  · exact z
  · rw [if_neg z] at h; exact absurd rfl h
theorem see_eq {b : Nat → Int32} {n p : Nat} {c : Int32} : pSee b n p c = true ↔ lk b n p = c := by unfold pSee; exact decide_eq_true_iff
theorem see_lt {b : Nat → Int32} {n p : Nat} {c : Int32} (h : pSee b n p c = true) (hc : ¬ c = -1) : sk b n p < n := lk_lt (by rw [see_eq.mp h]; exact hc)
theorem dig_st {b : Nat → Int32} {n p : Nat} (h : isDg b n p) : ∃ d : Nat, d ≤ 9 ∧ ∀ m, 10 * nI m + b p - 48 = nI (10 * m + d) := by
  have e1 := Int32.le_iff_toInt_le.mp h.2.1
  have e2 := Int32.le_iff_toInt_le.mp h.2.2
  have e3 : (48 : Int32).toInt = 48 := rfl
  have e4 : (57 : Int32).toInt = 57 := rfl
  rw [e3] at e1
  rw [e4] at e2
  obtain ⟨d, hd, hb⟩ : ∃ d : Nat, d ≤ 9 ∧ b p = nI (48 + d) := by
    refine ⟨(b p).toInt.toNat - 48, by omega, ?_⟩
    rw [← Int32.toInt_inj, nI_toInt (by omega)]
    omega
  refine ⟨d, hd, fun m => ?_⟩
  rw [hb]
  have hm : (10 : Int32) * nI m = nI (10 * m) := (Int32.ofNat_mul 10 m).symm
  rw [hm, nI_add, show 10 * m + (48 + d) = 10 * m + d + 48 by omega, ← nI_add (10 * m + d) 48]
  exact Int32.add_sub_cancel _ _
section PUR
variable {b : Nat → Int32} {n : Nat} {L : Int32 → Int32}
theorem Gd_take {V : Int32 → Prop} {p0 q : Nat} {c : Int32} {cs : List Int32} (hc : ¬ c = -1) (hq : q ≤ n) (h : Gd n L V p0 (.ok (q, cs))) : Gd n L V p0 (pTake b n q c cs) := by
  unfold pTake
  obtain ⟨h1, h2, h3, h4, h5⟩ := h.1 q cs rfl
  by_cases z : pSee b n q c = true
  · rw [if_pos z]
    have := see_lt z hc
    have := sk_ge (b := b) (n := n) (p := q)
    exact Gd_ok (by omega) (by omega) h3 h4 h5
  · rw [if_neg z]
    exact Gd_er (sk_le hq)
theorem Gd_bind {V V' : Int32 → Prop} {p p' : Nat} {x : PR} {f : Nat → List Int32 → PR} (hx : Gd n L V p x) (hf : ∀ q cs, Gd n L V p (.ok (q, cs)) → q ≤ n → p + cs.length ≤ q → Gd n L V' p' (f q cs)) : Gd n L V' p' (pBind x f) := by
  cases x with
  | error e => exact Gd_er (hx.2 e rfl)
  | ok a =>
    obtain ⟨q, cs⟩ := a
    exact hf q cs hx (hx.1 q cs rfl).2.1 (hx.1 q cs rfl).1
theorem Gd_more {V : Int32 → Prop} {A : Nat → PR} {s t : Int32} (hA : ∀ p, p ≤ n → Gd n L V p (A p)) (hs : isJn s) (ht : isJn t) (hj : ∀ c l r, c = s ∨ c = t → V l → V r → V (jn c l r)) : ∀ (f p q : Nat) (cs : List Int32), Gd n L V p (.ok (q, cs)) → Gd n L V p (pMore b n A s t f q cs)
  | 0, p, q, cs, h => h
  | f + 1, p, q, cs, h => by
    unfold pMore
    by_cases z : (pSee b n q s || pSee b n q t) = true
    · rw [if_pos z]
      obtain ⟨h1, h2, h3, h4, h5⟩ := h.1 q cs rfl
      have hst : lk b n q = s ∨ lk b n q = t := by
        rcases Bool.or_eq_true_iff.mp z with y | y
        · exact Or.inl (see_eq.mp y)
        · exact Or.inr (see_eq.mp y)
      have hJ : isJn (lk b n q) := by rcases hst with y | y <;> rw [y] <;> assumption
      have hlt : sk b n q < n := lk_lt (fun y => by rw [y] at hJ; unfold isJn at hJ; revert hJ; decide)
      have hge := sk_ge (b := b) (n := n) (p := q)
      refine Gd_bind (hA (sk b n q + 1) (by omega)) (fun q' ds hd hq' hl => ?_)
      refine Gd_more hA hs ht hj f p q' _ ?_
      obtain ⟨g1, g2, g3, g4, g5⟩ := hd.1 q' ds rfl
      refine Gd_ok (w := jn (lk b n q) (vl L cs) (vl L ds)) ?_ g2 ?_ (hj _ _ _ hst h4 g4) ?_
      · rw [List.length_append, List.length_append, List.length_singleton]; omega
      · intro c hc
        rcases List.mem_append.mp hc with hc | hc
        · rcases List.mem_append.mp hc with hc | hc
          · exact h3 c hc
          · exact g3 c hc
        · rw [List.mem_singleton.mp hc]; exact okc_jn hJ
      · intro st
        rw [rnL_app, rnL_app, h5, g5]
        exact stp_jn L hJ _ _ _
    · rw [if_neg z]
      exact h
theorem Gd_num : ∀ (f p0 p m : Nat), p0 + 1 ≤ p → p ≤ n → m < 10 ^ (4 - f) → f ≤ 4 → Gd n L bd6 p0 (pNum b n f p (nI m))
  | f, p0, p, m, h0, hp, hm, hf => by
    have hm2 : m < 10000 := Nat.lt_of_lt_of_le hm (Nat.pow_le_pow_right (by decide) (by omega : 4 - f ≤ 4))
    have hdone : Gd n L bd6 p0 (.ok (p, [nI m])) := by
      have h00 : 0 ≤ nI m := nI_pos' (by omega)
      refine Gd_ok (w := nI m) h0 hp (fun c hc => by rw [List.mem_singleton.mp hc]; exact okc_num h00) ?_ (fun st => stp_num L h00 st)
      rw [bd6_i, nI_toInt (by omega)]; omega
    cases f with
    | zero =>
      unfold pNum
      split
      · exact Gd_er hp
      · exact hdone
    | succ f =>
      unfold pNum
      split
      · rename_i hd
        obtain ⟨d, hd9, hst⟩ := dig_st (b := b) (n := n) (p := p) hd
        have e := hst m
        rw [e]
        have e10 : 10 ^ (4 - f) = 10 * 10 ^ (4 - (f + 1)) := by
          rw [show 4 - f = (4 - (f + 1)) + 1 by omega, Nat.pow_succ, Nat.mul_comm]
        exact Gd_num f p0 (p + 1) (10 * m + d) (by omega) (by omega) (by rw [e10]; omega) (by omega)
      · exact hdone
  termination_by f => f
theorem Gd_atom {S : Option (Nat → PR)} (hL : ∀ c, bd6 (L c)) (hS : ∀ s, S = some s → ∀ p, p ≤ n → Gd n L bd6 p (s p)) {p : Nat} (hp : p ≤ n) : Gd n L bd6 p (pAtom b n S p) := by
  have hge := sk_ge (b := b) (n := n) (p := p)
  unfold pAtom
  by_cases z : pLetters.any (fun c => decide (lk b n p = c)) = true
  · rw [if_pos z]
    have z1 : isLet (lk b n p) = true := z
    have hlt : sk b n p < n := lk_lt (fun y => by rw [y] at z1; revert z1; decide)
    refine Gd_ok (w := L (lk b n p)) (by show p + 1 ≤ _; omega) (by omega) (fun c hc => by rw [List.mem_singleton.mp hc]; exact okc_let z1) (hL _) (fun st => stp_let L z1 st)
  · rw [if_neg z]
    by_cases y : pSee b n p 91 = true
    · rw [if_pos y]
      have hlt := see_lt y (by decide)
      cases S with
      | none => exact Gd_er (by omega)
      | some s =>
        refine Gd_bind (hS s rfl (sk b n p + 1) (by omega)) (fun q cs hg hq _ => ?_)
        exact Gd_take (by decide) hq (Gd_lo hg (by omega))
    · rw [if_neg y]
      by_cases x : sk b n p < n ∧ 48 ≤ b (sk b n p) ∧ b (sk b n p) ≤ 57
      · rw [if_pos x]
        unfold pNum
        rw [if_pos x]
        obtain ⟨d, hd9, hst⟩ := dig_st (b := b) (n := n) (p := sk b n p) x
        have e : 10 * 0 + b (sk b n p) - 48 = nI d := by
          have := hst 0
          rw [show 10 * 0 + d = d by omega] at this
          exact this
        rw [e]
        exact Gd_num 3 p (sk b n p + 1) d (by omega) (by omega) (by show d < 10; omega) (by decide)
      · rw [if_neg x]
        exact Gd_er (sk_le hp)
theorem Gd_term {S : Option (Nat → PR)} (hL : ∀ c, bd6 (L c)) (hS : ∀ s, S = some s → ∀ p, p ≤ n → Gd n L bd6 p (s p)) {p : Nat} (hp : p ≤ n) : Gd n L bd6 p (pTerm b n S p) :=
  Gd_bind (Gd_atom hL hS hp) (fun q cs hg _ _ => Gd_more (fun p hp => Gd_atom hL hS hp) (by unfold isJn; decide) (by unfold isJn; decide) (fun c l r hc _ _ => jn_ar (by rcases hc with h | h <;> subst h <;> unfold isAr <;> decide)) n p q cs hg)
theorem Gd_sum1 {S : Option (Nat → PR)} (hL : ∀ c, bd6 (L c)) (hS : ∀ s, S = some s → ∀ p, p ≤ n → Gd n L bd6 p (s p)) {p : Nat} (hp : p ≤ n) : Gd n L bd6 p (pSum1 b n S p) :=
  Gd_bind (Gd_term hL hS hp) (fun q cs hg _ _ => Gd_more (fun p hp => Gd_term hL hS hp) (by unfold isJn; decide) (by unfold isJn; decide) (fun c l r hc _ _ => jn_ar (by rcases hc with h | h <;> subst h <;> unfold isAr <;> decide)) n p q cs hg)
theorem Gd_sum (hL : ∀ c, bd6 (L c)) : ∀ (k : Nat) {p : Nat}, p ≤ n → Gd n L bd6 p (pSum b n k p)
  | 0, p, hp => Gd_sum1 hL (fun s h => by cases h) hp
  | k + 1, p, hp => Gd_sum1 hL (fun s h p hp => by cases h; exact Gd_sum hL k hp) hp
theorem rel_eq {p : Nat} (h : pIsRel b n p = true) : lk b n p = 61 ∨ lk b n p = 60 ∨ lk b n p = 62 := by
  unfold pIsRel at h
  rcases Bool.or_eq_true_iff.mp h with h | h
  · rcases Bool.or_eq_true_iff.mp h with h | h
    · exact Or.inl (see_eq.mp h)
    · exact Or.inr (Or.inl (see_eq.mp h))
  · exact Or.inr (Or.inr (see_eq.mp h))
theorem Gd_rel {S : Nat → PR} (hS : ∀ p, p ≤ n → Gd n L bd6 p (S p)) {p0 p : Nat} {cs : List Int32} (h : Gd n L bd6 p0 (.ok (p, cs))) : Gd n L v01 p0 (pRel b n S p cs) := by
  have hp : p ≤ n := (h.1 p cs rfl).2.1
  have hge := sk_ge (b := b) (n := n) (p := p)
  unfold pRel
  by_cases z : pIsRel b n p = true
  · rw [if_pos z]
    have hr := rel_eq z
    have hJ : isJn (lk b n p) := by unfold isJn; rcases hr with h | h | h <;> rw [h] <;> decide
    have hlt : sk b n p < n := lk_lt (fun y => by rw [y] at hr; revert hr; decide)
    obtain ⟨h1, h2, h3, h4, h5⟩ := h.1 p cs rfl
    refine Gd_bind (hS (sk b n p + 1) (by omega)) (fun q ds hd hq hl => ?_)
    obtain ⟨g1, g2, g3, g4, g5⟩ := hd.1 q ds rfl
    refine Gd_ok (w := jn (lk b n p) (vl L cs) (vl L ds)) ?_ g2 ?_ (jn_rel hr) ?_
    · rw [List.length_append, List.length_append, List.length_singleton]; omega
    · intro c hc
      rcases List.mem_append.mp hc with hc | hc
      · rcases List.mem_append.mp hc with hc | hc
        · exact h3 c hc
        · exact g3 c hc
      · rw [List.mem_singleton.mp hc]; exact okc_jn hJ
    · intro st
      rw [rnL_app, rnL_app, h5, g5]
      exact stp_jn L hJ _ _ _
  · rw [if_neg z]
    exact Gd_er (sk_le hp)
theorem Gd_unit1 {UC : Option ((Nat → PR) × (Nat → PR))} {S : Nat → PR} (hS : ∀ p, p ≤ n → Gd n L bd6 p (S p)) (hU : ∀ u, UC = some u → ∀ p, p ≤ n → Gd n L v01 p (u.1 p) ∧ Gd n L v01 p (u.2 p)) {p : Nat} (hp : p ≤ n) : Gd n L v01 p (pUnit1 b n UC S p) := by
  have hge := sk_ge (b := b) (n := n) (p := p)
  unfold pUnit1
  by_cases z : pSee b n p 33 = true
  · rw [if_pos z]
    have hlt := see_lt z (by decide)
    cases UC with
    | none => exact Gd_er (by omega)
    | some u =>
      refine Gd_bind (hU u rfl (sk b n p + 1) (by omega)).1 (fun q cs hg hq hl => ?_)
      obtain ⟨g1, g2, g3, g4, g5⟩ := hg.1 q cs rfl
      refine Gd_ok (w := if vl L cs = 0 then 1 else 0) ?_ g2 ?_ ?_ ?_
      · rw [List.length_append, List.length_singleton]; omega
      · intro c hc
        rcases List.mem_append.mp hc with hc | hc
        · exact g3 c hc
        · rw [List.mem_singleton.mp hc]; exact ⟨by decide, by decide, by decide, by decide, by decide⟩
      · split
        · exact Or.inr rfl
        · exact Or.inl rfl
      · intro st
        rw [rnL_app, g5]
        exact stp_not L _ _
  · rw [if_neg z]
    by_cases y : pSee b n p 40 = true
    · rw [if_pos y]
      have hlt := see_lt y (by decide)
      cases UC with
      | none => exact Gd_er (by omega)
      | some u =>
        refine Gd_bind (hU u rfl (sk b n p + 1) (by omega)).2 (fun q cs hg hq _ => ?_)
        exact Gd_take (by decide) hq (Gd_lo hg (by omega))
    · rw [if_neg y]
      exact Gd_bind (hS p hp) (fun q cs hg _ _ => Gd_rel hS hg)
theorem Gd_units {U : Nat → PR} (hU : ∀ p, p ≤ n → Gd n L v01 p (U p)) {p q : Nat} {cs : List Int32} (h : Gd n L v01 p (.ok (q, cs))) : Gd n L v01 p (pUnits b n U q cs) :=
  Gd_more hU (by unfold isJn; decide) (by unfold isJn; decide) (fun c l r hc hl hr => by rcases hc with h | h <;> subst h <;> exact jn_and hl hr) n p q cs h
theorem Gd_part1 {U : Nat → PR} (hU : ∀ p, p ≤ n → Gd n L v01 p (U p)) {p : Nat} (hp : p ≤ n) : Gd n L v01 p (pPart1 b n U p) :=
  Gd_bind (hU p hp) (fun q cs hg _ _ => Gd_units hU hg)
theorem Gd_parts {U : Nat → PR} (hU : ∀ p, p ≤ n → Gd n L v01 p (U p)) {p q : Nat} {cs : List Int32} (h : Gd n L v01 p (.ok (q, cs))) : Gd n L v01 p (pParts b n U q cs) :=
  Gd_more (fun p hp => Gd_part1 hU hp) (by unfold isJn; decide) (by unfold isJn; decide) (fun c l r hc hl hr => by rcases hc with h | h <;> subst h <;> exact jn_or hl hr) n p q cs h
theorem Gd_cond1 {U : Nat → PR} (hU : ∀ p, p ≤ n → Gd n L v01 p (U p)) {p : Nat} (hp : p ≤ n) : Gd n L v01 p (pCond1 b n U p) :=
  Gd_bind (Gd_part1 hU hp) (fun q cs hg _ _ => Gd_parts hU hg)
theorem pUC_0 : pUC b n 0 = (pUnit1 b n none (pSum b n 0), pCond1 b n (pUnit1 b n none (pSum b n 0))) := rfl
theorem pUC_s {k : Nat} : pUC b n (k + 1) = (pUnit1 b n (some (pUC b n k)) (pSum b n (k + 1)), pCond1 b n (pUnit1 b n (some (pUC b n k)) (pSum b n (k + 1)))) := rfl
theorem Gd_UC (hL : ∀ c, bd6 (L c)) : ∀ (k : Nat), (∀ p, p ≤ n → Gd n L v01 p ((pUC b n k).1 p)) ∧ ∀ p, p ≤ n → Gd n L v01 p ((pUC b n k).2 p)
  | 0 => by
    have h1 : ∀ p, p ≤ n → Gd n L v01 p (pUnit1 b n none (pSum b n 0) p) := fun p hp => Gd_unit1 (fun p hp => Gd_sum hL 0 hp) (fun u h => by cases h) hp
    rw [pUC_0]
    exact ⟨h1, fun p hp => Gd_cond1 h1 hp⟩
  | k + 1 => by
    have ih := Gd_UC hL k
    have h1 : ∀ p, p ≤ n → Gd n L v01 p (pUnit1 b n (some (pUC b n k)) (pSum b n (k + 1)) p) := fun p hp => Gd_unit1 (fun p hp => Gd_sum hL (k + 1) hp) (fun u h p hp => by cases h; exact ⟨ih.1 p hp, ih.2 p hp⟩) hp
    rw [pUC_s]
    exact ⟨h1, fun p hp => Gd_cond1 h1 hp⟩
end PUR
