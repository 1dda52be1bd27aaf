/-! the model's methods, 17: clauses, whole texts -/
def isLab (c : Int32) : Bool := pLabels.any (fun l => decide (c = l))
/-- codes worked out for a label -/
def wRO (L : Int32 → Int32) (lb : Int32) : List Int32 → Bool → List Int32 → Option Int32
  | [], _, _ => none
  | c :: t, k, st => if isLab (-c) then wRO L lb t (decide (c = -lb)) st else if k = true ∧ c = -59 then some (st.headD 0) else if k = true ∧ c = -63 then wRO L lb t (decide (¬ st.headD 0 = 0)) st.tail else if k = true then wRO L lb t k (stp L c st) else wRO L lb t k st
theorem lab_mem {c : Int32} (h : isLab c = true) : c = 113 ∨ c = 115 ∨ c = 100 := by
  unfold isLab pLabels at h
  simpa using h
theorem okc_lab {c : Int32} (h : okc c) : ¬ isLab (-c) = true := by
  intro z
  have z2 := lab_mem z
  have e : ∀ x : Int32, -c = x → c = -x := fun x y => by rw [← y, Int32.neg_neg]
  rcases z2 with y | y | y
  · exact h.1 (e _ y)
  · exact h.2.1 (e _ y)
  · exact h.2.2.1 (e _ y)
theorem wRO_t (L : Int32 → Int32) (lb : Int32) : ∀ (cs r st : List Int32), (∀ c ∈ cs, okc c) → wRO L lb (cs ++ r) true st = wRO L lb r true (rnL L cs st)
  | [], _, _, _ => rfl
  | c :: t, r, st, h => by
    have hc := h c List.mem_cons_self
    show wRO L lb (c :: (t ++ r)) true st = _
    rw [wRO, if_neg (okc_lab hc), if_neg (fun z => hc.2.2.2.1 z.2), if_neg (fun z => hc.2.2.2.2 z.2), if_pos rfl]
    exact wRO_t L lb t r _ (fun x hx => h x (List.mem_cons_of_mem _ hx))
theorem wRO_f (L : Int32 → Int32) (lb : Int32) : ∀ (cs r st : List Int32), (∀ c ∈ cs, ¬ isLab (-c) = true) → wRO L lb (cs ++ r) false st = wRO L lb r false st
  | [], _, _, _ => rfl
  | c :: t, r, st, h => by
    have hc := h c List.mem_cons_self
    show wRO L lb (c :: (t ++ r)) false st = _
    rw [wRO, if_neg hc, if_neg (fun z => absurd z.1 (by decide)), if_neg (fun z => absurd z.1 (by decide)), if_neg (by decide)]
    exact wRO_f L lb t r _ (fun x hx => h x (List.mem_cons_of_mem _ hx))
def orO (a b : Option Int32) : Option Int32 := match a with
  | some x => some x
  | none => b
/-- codes that stand for themselves -/
def Cp (L : Int32 → Int32) (lb : Int32) (cs : List Int32) : Prop := ∀ r k st, wRO L lb (cs ++ r) k st = orO (wRO L lb cs false []) (wRO L lb r false st)
theorem orO_as (a b c : Option Int32) : orO (orO a b) c = orO a (orO b c) := by cases a <;> rfl
theorem Cp_app {L : Int32 → Int32} {lb : Int32} {cs ds : List Int32} (h1 : Cp L lb cs) (h2 : Cp L lb ds) : Cp L lb (cs ++ ds) := by
  intro r k st
  rw [List.append_assoc, h1, h2, h1 ds, orO_as]
theorem lab_eq {a b : Int32} : -a = -b ↔ a = b := by
  constructor
  · intro h
    have := congrArg (fun x : Int32 => -x) h
    simpa using this
  · intro h; rw [h]
section CLP
variable {L : Int32 → Int32} {lb lab : Int32} {n : Nat} {b : Nat → Int32}
theorem clA0 {ss r st : List Int32} {k : Bool} (hl : isLab lab = true) (h1 : ∀ c ∈ ss, okc c) (h2 : ∀ st, rnL L ss st = vl L ss :: st) : wRO L lb (([-lab] ++ ss ++ [-59]) ++ r) k st = if lab = lb then some (vl L ss) else wRO L lb r false st := by
  have e : ([-lab] ++ ss ++ [-59]) ++ r = -lab :: (ss ++ (-59 :: r)) := by simp
  rw [e, wRO, if_pos (by rw [Int32.neg_neg]; exact hl)]
  by_cases z : lab = lb
  · rw [if_pos z, show decide (-lab = -lb) = true from decide_eq_true (lab_eq.mpr z), wRO_t L lb ss _ _ h1, h2, wRO, if_neg (by decide), if_pos ⟨rfl, rfl⟩]
    rfl
  · rw [if_neg z, show decide (-lab = -lb) = false from decide_eq_false (fun y => z (lab_eq.mp y)), wRO_f L lb ss _ _ (fun c hc => okc_lab (h1 c hc)), wRO, if_neg (by decide), if_neg (fun y => absurd y.1 (by decide)), if_neg (fun y => absurd y.1 (by decide)), if_neg (by decide)]
theorem clB0 {ds es r st : List Int32} {k : Bool} (hl : isLab lab = true) (h1 : ∀ c ∈ ds, okc c) (h2 : ∀ st, rnL L ds st = vl L ds :: st) (g1 : ∀ c ∈ es, okc c) (g2 : ∀ st, rnL L es st = vl L es :: st) : wRO L lb ((([-lab] ++ ds) ++ [-63] ++ es ++ [-59]) ++ r) k st = if lab = lb then (if vl L ds = 0 then wRO L lb r false st else some (vl L es)) else wRO L lb r false st := by
  have e : (([-lab] ++ ds) ++ [-63] ++ es ++ [-59]) ++ r = -lab :: (ds ++ (-63 :: (es ++ (-59 :: r)))) := by simp
  have hf : ∀ st, wRO L lb (es ++ (-59 :: r)) false st = wRO L lb r false st := by
    intro st
    rw [wRO_f L lb es _ _ (fun c hc => okc_lab (g1 c hc)), wRO, if_neg (by decide), if_neg (fun y => absurd y.1 (by decide)), if_neg (fun y => absurd y.1 (by decide)), if_neg (by decide)]
  rw [e, wRO, if_pos (by rw [Int32.neg_neg]; exact hl)]
  by_cases z : lab = lb
  · rw [if_pos z, show decide (-lab = -lb) = true from decide_eq_true (lab_eq.mpr z), wRO_t L lb ds _ _ h1, h2, wRO, if_neg (by decide), if_neg (fun y => absurd y.2 (by decide)), if_pos ⟨rfl, rfl⟩]
    show wRO L lb _ (decide (¬ vl L ds = 0)) st = _
    by_cases y : vl L ds = 0
    · rw [if_pos y, show decide (¬ vl L ds = 0) = false from decide_eq_false (fun x => x y), hf]
    · rw [if_neg y, show decide (¬ vl L ds = 0) = true from decide_eq_true y, wRO_t L lb es _ _ g1, g2, wRO, if_neg (by decide), if_pos ⟨rfl, rfl⟩]
      rfl
  · rw [if_neg z, show decide (-lab = -lb) = false from decide_eq_false (fun y => z (lab_eq.mp y)), wRO_f L lb ds _ _ (fun c hc => okc_lab (h1 c hc)), wRO, if_neg (by decide), if_neg (fun y => absurd y.1 (by decide)), if_neg (fun y => absurd y.1 (by decide)), if_neg (by decide), hf]
theorem clA {ss : List Int32} (hl : isLab lab = true) (h1 : ∀ c ∈ ss, okc c) (h2 : ∀ st, rnL L ss st = vl L ss :: st) : wRO L lb ([-lab] ++ ss ++ [-59]) false [] = if lab = lb then some (vl L ss) else none := by
  have := clA0 (lb := lb) (r := []) (st := []) (k := false) hl h1 h2
  rw [List.append_nil] at this
  exact this
theorem clB {ds es : List Int32} (hl : isLab lab = true) (h1 : ∀ c ∈ ds, okc c) (h2 : ∀ st, rnL L ds st = vl L ds :: st) (g1 : ∀ c ∈ es, okc c) (g2 : ∀ st, rnL L es st = vl L es :: st) : wRO L lb (([-lab] ++ ds) ++ [-63] ++ es ++ [-59]) false [] = if lab = lb then (if vl L ds = 0 then none else some (vl L es)) else none := by
  have := clB0 (lb := lb) (r := []) (st := []) (k := false) hl h1 h2 g1 g2
  rw [List.append_nil] at this
  exact this
theorem CpA {ss : List Int32} (hl : isLab lab = true) (h1 : ∀ c ∈ ss, okc c) (h2 : ∀ st, rnL L ss st = vl L ss :: st) : Cp L lb ([-lab] ++ ss ++ [-59]) := by
  intro r k st
  rw [clA0 hl h1 h2, clA hl h1 h2]
  split <;> rfl
theorem CpB {ds es : List Int32} (hl : isLab lab = true) (h1 : ∀ c ∈ ds, okc c) (h2 : ∀ st, rnL L ds st = vl L ds :: st) (g1 : ∀ c ∈ es, okc c) (g2 : ∀ st, rnL L es st = vl L es :: st) : Cp L lb (([-lab] ++ ds) ++ [-63] ++ es ++ [-59]) := by
  intro r k st
  rw [clB0 hl h1 h2 g1 g2, clB hl h1 h2 g1 g2]
  split
  · split <;> rfl
  · rfl
/-- good codes of a clause, of clauses -/
def Gc (n : Nat) (L : Int32 → Int32) (lb : Int32) (p : Nat) (x : PR) : Prop := (∀ q cs, x = .ok (q, cs) → p + cs.length ≤ q ∧ q ≤ n ∧ Cp L lb cs) ∧ ∀ e, x = .error e → e ≤ n
theorem Gc_er {p e : Nat} (h : e ≤ n) : Gc n L lb p (.error e) := ⟨fun q cs z => (by cases z), fun e' z => (by cases z; exact h)⟩
theorem Gc_ok {p q : Nat} {cs : List Int32} (h1 : p + cs.length ≤ q) (h2 : q ≤ n) (h3 : Cp L lb cs) : Gc n L lb p (.ok (q, cs)) := ⟨fun q' cs' z => (by cases z; exact ⟨h1, h2, h3⟩), fun e z => (by cases z)⟩
theorem take_or {p : Nat} {c : Int32} {cs : List Int32} (hc : ¬ c = -1) : (lk b n p = c ∧ sk b n p < n ∧ pTake b n p c cs = .ok (sk b n p + 1, cs)) ∨ (¬ lk b n p = c ∧ pTake b n p c cs = .error (sk b n p)) := by
  unfold pTake
  by_cases z : pSee b n p c = true
  · exact Or.inl ⟨see_eq.mp z, see_lt z hc, if_pos z⟩
  · exact Or.inr ⟨fun y => z (see_eq.mpr y), if_neg z⟩
theorem Gc_then (hL : ∀ c, bd6 (L c)) {p r : Nat} {ds : List Int32} (hl : isLab lab = true) (hr : r ≤ n) (hp : p + 2 + ds.length ≤ r) (h1 : ∀ c ∈ ds, okc c) (h2 : ∀ st, rnL L ds st = vl L ds :: st) : Gc n L lb p (pThen b n r ([-lab] ++ ds)) := by
  have hge := sk_ge (b := b) (n := n) (p := r)
  unfold pThen
  rcases take_or (b := b) (n := n) (p := r) (c := 63) (cs := [-lab] ++ ds) (by decide) with ⟨-, hlt, e⟩ | ⟨-, e⟩
  · rw [e, pBind_ok]
    have hg := Gd_sum (b := b) hL 6 (show sk b n r + 1 ≤ n by omega)
    cases hs : pSum b n 6 (sk b n r + 1) with
    | error x => rw [pBind_er]; rw [hs] at hg; exact Gc_er (hg.2 x rfl)
    | ok a =>
      obtain ⟨q, es⟩ := a
      rw [hs] at hg
      obtain ⟨g1, g2, g3, g4, g5⟩ := hg.1 q es rfl
      rw [pBind_ok]
      refine Gc_ok ?_ g2 (CpB hl h1 h2 g3 g5)
      simp only [List.length_append, List.length_singleton]; omega
  · rw [e, pBind_er]; exact Gc_er (sk_le hr)
theorem Gc_clause (hL : ∀ c, bd6 (L c)) {p : Nat} (hp : p ≤ n) : Gc n L lb p (pClause b n p) := by
  have hge := sk_ge (b := b) (n := n) (p := p)
  unfold pClause
  by_cases z : pLabels.any (fun c => decide (lk b n p = c)) = true
  · rw [if_pos z]
    have hl : isLab (lk b n p) = true := z
    have hlt : sk b n p < n := lk_lt (fun y => by rw [y] at hl; revert hl; decide)
    have hge2 := sk_ge (b := b) (n := n) (p := sk b n p + 1)
    rcases take_or (b := b) (n := n) (p := sk b n p + 1) (c := 58) (cs := [-lk b n p]) (by decide) with ⟨-, hlt2, e⟩ | ⟨-, e⟩
    · rw [e, pBind_ok]
      by_cases y : (pSee b n (sk b n (sk b n p + 1) + 1) 33 || pSee b n (sk b n (sk b n p + 1) + 1) 40) = true
      · rw [if_pos y]
        have hg := (Gd_UC (b := b) (n := n) hL 6).2 (sk b n (sk b n p + 1) + 1) (by omega)
        cases hs : (pUC b n 6).2 (sk b n (sk b n p + 1) + 1) with
        | error x => rw [pBind_er]; rw [hs] at hg; exact Gc_er (hg.2 x rfl)
        | ok a =>
          obtain ⟨q, ds⟩ := a
          rw [hs] at hg
          obtain ⟨g1, g2, g3, g4, g5⟩ := hg.1 q ds rfl
          rw [pBind_ok]
          exact Gc_then hL hl g2 (by omega) g3 g5
      · rw [if_neg y]
        have hg := Gd_sum (b := b) hL 6 (show sk b n (sk b n p + 1) + 1 ≤ n by omega)
        cases hs : pSum b n 6 (sk b n (sk b n p + 1) + 1) with
        | error x => rw [pBind_er]; rw [hs] at hg; exact Gc_er (hg.2 x rfl)
        | ok a =>
          obtain ⟨q, ds⟩ := a
          rw [hs] at hg
          obtain ⟨g1, g2, g3, g4, g5⟩ := hg.1 q ds rfl
          rw [pBind_ok]
          by_cases x : pIsRel b n q = true
          · rw [if_pos x]
            have hg2 := Gd_bind (Gd_bind (Gd_rel (b := b) (S := pSum b n 6) (fun p hp => Gd_sum (b := b) hL 6 hp) hg) (fun q cs hg _ _ => Gd_units (b := b) (Gd_UC (b := b) (n := n) hL 6).1 hg)) (fun q cs hg _ _ => Gd_parts (b := b) (Gd_UC (b := b) (n := n) hL 6).1 hg)
            cases hs2 : pBind (pBind (pRel b n (pSum b n 6) q ds) (pUnits b n (pUC b n 6).1)) (pParts b n (pUC b n 6).1) with
            | error x => rw [pBind_er]; rw [hs2] at hg2; exact Gc_er (hg2.2 x rfl)
            | ok a =>
              obtain ⟨q2, es⟩ := a
              rw [hs2] at hg2
              obtain ⟨f1, f2, f3, f4, f5⟩ := hg2.1 q2 es rfl
              rw [pBind_ok]
              exact Gc_then hL hl f2 (by omega) f3 f5
          · rw [if_neg x]
            refine Gc_ok ?_ g2 (CpA hl g3 g5)
            simp only [List.length_append, List.length_singleton]; omega
    · rw [e, pBind_er]; exact Gc_er (sk_le (by omega))
  · rw [if_neg z]; exact Gc_er (sk_le hp)
theorem clauses_or {f q : Nat} {cs : List Int32} (hq : q ≤ n) (hf : n ≤ q + f) :
    (¬ lk b n q = 59 ∧ pClauses b n f q cs = .ok (q, cs)) ∨ ∃ f', f = f' + 1 ∧ n ≤ sk b n q + 1 + f' ∧ lk b n q = 59 ∧ sk b n q < n ∧ pClauses b n f q cs = pBind (pClause b n (sk b n q + 1)) (fun q' ds => pClauses b n f' q' (cs ++ ds)) := by
  cases f with
  | zero =>
    have e : q = n := by omega
    subst e
    have e2 : lk b q q = -1 := by unfold lk; rw [sk_end, if_neg (Nat.lt_irrefl _)]
    exact Or.inl ⟨by rw [e2]; decide, rfl⟩
  | succ f =>
    by_cases z : pSee b n q 59 = true
    · have hlt := see_lt z (by decide)
      have hge := sk_ge (b := b) (n := n) (p := q)
      refine Or.inr ⟨f, rfl, by omega, see_eq.mp z, hlt, ?_⟩
      show (if pSee b n q 59 = true then _ else _) = _
      rw [if_pos z]
    · refine Or.inl ⟨fun y => z (see_eq.mpr y), ?_⟩
      show (if pSee b n q 59 = true then _ else _) = _
      rw [if_neg z]
theorem Gc_clauses (hL : ∀ c, bd6 (L c)) : ∀ (f p q : Nat) (cs : List Int32), n ≤ q + f → Gc n L lb p (.ok (q, cs)) → Gc n L lb p (pClauses b n f q cs)
  | f, p, q, cs, hf, hg => by
    obtain ⟨h1, h2, h3⟩ := hg.1 q cs rfl
    have hge := sk_ge (b := b) (n := n) (p := q)
    rcases clauses_or (b := b) (cs := cs) h2 hf with ⟨-, e⟩ | ⟨f', hf', hf2, -, hlt, e⟩
    · rw [e]; exact hg
    · rw [e]
      have hg2 := Gc_clause (b := b) (lb := lb) hL (show sk b n q + 1 ≤ n by omega)
      cases hs : pClause b n (sk b n q + 1) with
      | error x => rw [pBind_er]; rw [hs] at hg2; exact Gc_er (hg2.2 x rfl)
      | ok a =>
        obtain ⟨q2, ds⟩ := a
        rw [hs] at hg2
        obtain ⟨g1, g2, g3⟩ := hg2.1 q2 ds rfl
        rw [pBind_ok]
        exact Gc_clauses hL f' p q2 (cs ++ ds) (by omega) (Gc_ok (by rw [List.length_append]; omega) g2 (Cp_app h3 g3))
  termination_by f => f
  decreasing_by omega
theorem Gc_rule (hL : ∀ c, bd6 (L c)) : Gc n L lb 0 (pRule b n) := by
  have hg := Gc_clause (b := b) (lb := lb) hL (Nat.zero_le n)
  unfold pRule
  cases hs : pClause b n 0 with
  | error x => rw [pBind_er, pBind_er]; rw [hs] at hg; exact Gc_er (hg.2 x rfl)
  | ok a =>
    obtain ⟨q, cs⟩ := a
    rw [hs] at hg
    rw [pBind_ok]
    have hg2 := Gc_clauses (b := b) hL n 0 q cs (by omega) hg
    cases hs2 : pClauses b n n q cs with
    | error x => rw [pBind_er]; rw [hs2] at hg2; exact Gc_er (hg2.2 x rfl)
    | ok a2 =>
      obtain ⟨q2, cs2⟩ := a2
      rw [hs2] at hg2
      rw [pBind_ok]
      split
      · exact hg2
      · exact Gc_er (sk_le (hg2.1 q2 cs2 rfl).2.1)
end CLP
/-- what a clause leaves: found, hasFound -/
def clE (o : Option Int32) (v h : Int32) : Int32 × Int32 := if h = 0 then (match o with
  | some x => (x, 1)
  | none => (v, h)) else (v, h)
theorem clE_h {o : Option Int32} {v h : Int32} (z : ¬ h = 0) : clE o v h = (v, h) := if_neg z
theorem clE_n {v h : Int32} : clE none v h = (v, h) := by unfold clE; split <;> rfl
theorem clE_s {x v h : Int32} (z : h = 0) : clE (some x) v h = (x, 1) := if_pos z
theorem clE_or (a b : Option Int32) (v h : Int32) : clE (orO a b) v h = clE b (clE a v h).1 (clE a v h).2 := by
  by_cases z : h = 0
  · cases a with
    | none => rw [clE_n]; rfl
    | some x =>
      rw [clE_s z]
      show clE (some x) v h = clE b x 1
      rw [clE_s z, clE_h (by decide)]
  · rw [clE_h z, clE_h z, clE_h z]
def CQ (ad : Nat → Nat) (σ : MS) (b : Nat → Int32) (n : Nat) (L : Int32 → Int32) (v h : Int32) (x : PR) (Q : Option Value → Mem → Prop) : Prop :=
  (∀ q cs, x = .ok (q, cs) → ∀ q', q' ≤ n → sk b n q' = sk b n q → Q none (mm ad (pS σ (nI q') (-1) 0 (clE (wRO L (σ.1 32) cs false []) v h).1 (clE (wRO L (σ.1 32) cs false []) v h).2))) ∧ (∀ x', x = .error x' → ∀ a e', Q none (mm ad (pS σ a (nI x') e' v h)))
theorem sx_lab (c : Int32) : sxF pLabels c 3 0 = if 113 = c then nI 0 else if 115 = c then nI 1 else if 100 = c then nI 2 else -1 := rfl
theorem sx_lab_t {c : Int32} (h : isLab c = true) : 0 ≤ sxF pLabels c 3 0 := by
  rcases lab_mem h with h | h | h <;> subst h <;> decide
theorem sx_lab_f {c : Int32} (h : ¬ isLab c = true) : sxF pLabels c 3 0 = -1 := by
  have h2 : ∀ x ∈ pLabels, ¬ x = c := by
    intro x hx e
    subst e
    apply h
    unfold isLab
    exact List.any_eq_true.mpr ⟨x, hx, decide_eq_true rfl⟩
  rw [sx_lab, if_neg (h2 113 (by decide)), if_neg (h2 115 (by decide)), if_neg (h2 100 (by decide))]
theorem lb_lab : ∀ j, j < pLabels.length → 0 ≤ pLabels.getD j 0 ∧ pLabels.getD j 0 ≤ 127 := by decide
section MDR
variable {G : Gam} {d : Nat} {Y : MR} {ad : Nat → Nat} {σ σ0 : MS} {M : Mem} {lv : Lv} {st : List Value} {pc : Nat} {Q : Option Value → Mem → Prop} {b : Nat → Int32} {n p k : Nat} {L : Int32 → Int32} {e v h : Int32}
theorem cla_140 {lab w x a : Int32} (hq : Q none (mm ad (pS σ a (-1) e (clE (if lab = σ.1 32 then (if w = 0 then none else some x) else none) v h).1 (clE (if lab = σ.1 32 then (if w = 0 then none else some x) else none) v h).2))) : XJ G d (0, 0) MX12_clause (mm ad (pS σ a (-1) e v h)) [(0, .ref (ad 99)), (1, .int lab), (2, .int w), (3, .int x)] [] 140 Q := by
  refine x_aload_n dX12_clause_140 rfl rfl ?_
  refine xm_geti dX12_clause_141 lf_X12_198 vmi_30 ?_
  refine x_iconst (v := -1) dX12_clause_144 (by decide) ?_
  refine x_icmp_ne (tgt := 167) dX12_clause_145 (by decide) (fun z => absurd rfl z) (fun _ => ?_)
  refine x_aload_n dX12_clause_148 rfl rfl ?_
  refine xm_geti dX12_clause_149 lf_X12_272 vmi_34 ?_
  refine x_if_ne (tgt := 167) dX12_clause_152 (by decide) (fun h152 => ?_) (fun h152 => ?_)
  · exact x_return dX12_clause_167 rfl (by
first
| (rw [clE_h (show ¬ h = 0 from h152)] at hq; exact hq)
| (rw [if_neg (show ¬ lab = σ.1 32 from h160), clE_n] at hq; exact hq)
| (rw [if_pos (show lab = σ.1 32 from h160), if_pos h164, clE_n] at hq; exact hq)
| (rw [if_pos (show lab = σ.1 32 from h160), if_neg h164, clE_s (show h = 0 from h152)] at hq; exact hq))
  · refine x_iload_n dX12_clause_155 rfl rfl ?_
    refine x_aload_n dX12_clause_156 rfl rfl ?_
    refine xm_geti dX12_clause_157 lf_X12_276 vmi_32 ?_
    refine x_icmp_ne (tgt := 167) dX12_clause_160 (by decide) (fun h160 => ?_) (fun h160 => ?_)
    · exact x_return dX12_clause_167 rfl (by
first
| (rw [clE_h (show ¬ h = 0 from h152)] at hq; exact hq)
| (rw [if_neg (show ¬ lab = σ.1 32 from h160), clE_n] at hq; exact hq)
| (rw [if_pos (show lab = σ.1 32 from h160), if_pos h164, clE_n] at hq; exact hq)
| (rw [if_pos (show lab = σ.1 32 from h160), if_neg h164, clE_s (show h = 0 from h152)] at hq; exact hq))
    · refine x_iload_n dX12_clause_163 rfl rfl ?_
      refine x_if_ne (tgt := 168) dX12_clause_164 (by decide) (fun h164 => ?_) (fun h164 => ?_)
      · refine x_aload_n dX12_clause_168 rfl rfl ?_
        refine x_iconst (v := 1) dX12_clause_169 (by decide) ?_
        refine xm_puti dX12_clause_170 lp_X12_272 vmq_34 rfl rfl ?_
        refine x_aload_n dX12_clause_173 rfl rfl ?_
        refine x_iload_n dX12_clause_174 rfl rfl ?_
        refine xm_puti dX12_clause_175 lp_X12_279 vmq_33 vmn_33 vmf_33 ?_
        rw [pS_34, pS_33]
        exact x_return dX12_clause_178 rfl (by
first
| (rw [clE_h (show ¬ h = 0 from h152)] at hq; exact hq)
| (rw [if_neg (show ¬ lab = σ.1 32 from h160), clE_n] at hq; exact hq)
| (rw [if_pos (show lab = σ.1 32 from h160), if_pos h164, clE_n] at hq; exact hq)
| (rw [if_pos (show lab = σ.1 32 from h160), if_neg h164, clE_s (show h = 0 from h152)] at hq; exact hq))
      · exact x_return dX12_clause_167 rfl (by
first
| (rw [clE_h (show ¬ h = 0 from h152)] at hq; exact hq)
| (rw [if_neg (show ¬ lab = σ.1 32 from h160), clE_n] at hq; exact hq)
| (rw [if_pos (show lab = σ.1 32 from h160), if_pos h164, clE_n] at hq; exact hq)
| (rw [if_pos (show lab = σ.1 32 from h160), if_neg h164, clE_s (show h = 0 from h152)] at hq; exact hq))
theorem cla_140e {lab w x a f : Int32} (hf : ¬ f = -1) (hq : Q none (mm ad (pS σ a f e v h))) : XJ G d (0, 0) MX12_clause (mm ad (pS σ a f e v h)) [(0, .ref (ad 99)), (1, .int lab), (2, .int w), (3, .int x)] [] 140 Q := by
  refine x_aload_n dX12_clause_140 rfl rfl ?_
  refine xm_geti dX12_clause_141 lf_X12_198 vmi_30 ?_
  refine x_iconst (v := -1) dX12_clause_144 (by decide) ?_
  refine x_icmp_ne (tgt := 167) dX12_clause_145 (by decide) (fun _ => ?_) (fun z => absurd z hf)
  exact x_return dX12_clause_167 rfl (hq)
theorem cla_then {r r0 : Nat} {ds : List Int32} {lab : Int32} (hR : RdC G ad σ b n L) (hl : isLab lab = true) (hr0 : r0 ≤ n) (hsk : sk b n r0 = sk b n r) (hr : r ≤ n) (h1 : ∀ c ∈ ds, okc c) (h2 : ∀ st, rnL L ds st = vl L ds :: st) (hq : CQ ad σ b n L v h (pThen b n r ([-lab] ++ ds)) Q) : XJ G (d + 25) (0, 0) MX12_clause (mm ad (pS σ (nI r0) (-1) 0 v h)) [(0, .ref (ad 99)), (1, .int lab), (2, .int (vl L ds))] [] 77 Q ∧ XJ G (d + 25) (0, 0) MX12_clause (mm ad (pS σ (nI r0) (-1) 0 v h)) [(0, .ref (ad 99)), (1, .int lab), (2, .int (vl L ds))] [] 125 Q := by
  have hR' := hR
  obtain ⟨hi, hx, -, hbd, -, -, -⟩ := hR
  have hn3 := hx.n31
  have hlk := lk_of hsk
  unfold pThen at hq
  rcases take_or (b := b) (n := n) (p := r) (c := 63) (cs := [-lab] ++ ds) (by decide) with ⟨hy, hlt, e⟩ | ⟨hy, e⟩
  · rw [e, pBind_ok] at hq
    have hgA := Gd_sum (b := b) hbd 6 (show sk b n r + 1 ≤ n by omega)
    constructor
    · refine x_aload_n dX12_clause_77 rfl rfl ?_
      refine x_bipush (v := 63) dX12_clause_78 (by decide) ?_
      refine x_cV1 dX12_clause_80 lv_X12_238 mm_obj rfl rfl rfl  (c_takes1 hi hx hr0 ?_ ?_)
      · intro _
        rw [hsk]
        refine x_if_ne (tgt := 87) dX12_clause_83 (by decide) (fun _ => ?_) (fun z => absurd z (by decide))
        refine x_aload_n dX12_clause_87 rfl rfl ?_
        refine x_cV0 dX12_clause_88 lv_X12_235 mm_obj rfl rfl rfl  (c_X12_sum (k := 6) hR' (by decide) rfl (show sk b n r + 1 ≤ n by omega) ?_)
        refine ⟨fun q1 es hok q2 hq2 hsk2 => ?_, fun x' herr w a e' => ?_⟩
        · rw [hok] at hgA
          obtain ⟨g1, g2, g3, g4, g5⟩ := hgA.1 q1 es rfl
          rw [hok, pBind_ok] at hq
          have h3 := hq.1 q1 _ rfl q2 hq2 hsk2
          rw [clB hl h1 h2 g3 g5] at h3
          refine x_istore_n dX12_clause_91 rfl (by decide) ?_
          refine x_goto (tgt := 140) dX12_clause_92 (by decide) ?_
          refine x_loc _ (?_ : lle _ _) (cla_140 (lab := lab) (w := vl L ds) (x := vl L es) h3)
          exact ⟨rfl, rfl, rfl, rfl, trivial⟩
        · rw [herr, pBind_er] at hq
          have hne := nI_n1 (x := x') (by have := hgA.2 x' herr; omega)
          refine x_istore_n dX12_clause_91 rfl (by decide) ?_
          refine x_goto (tgt := 140) dX12_clause_92 (by decide) ?_
          refine x_loc _ (?_ : lle _ _) (cla_140e (lab := lab) (w := vl L ds) (x := w) hne (hq.2 x' rfl a e'))
          exact ⟨rfl, rfl, rfl, rfl, trivial⟩
      · intro hl2
        exact absurd (hlk.trans hy) hl2
    · refine x_aload_n dX12_clause_125 rfl rfl ?_
      refine x_bipush (v := 63) dX12_clause_126 (by decide) ?_
      refine x_cV1 dX12_clause_128 lv_X12_238 mm_obj rfl rfl rfl  (c_takes1 hi hx hr0 ?_ ?_)
      · intro _
        rw [hsk]
        refine x_if_ne (tgt := 135) dX12_clause_131 (by decide) (fun _ => ?_) (fun z => absurd z (by decide))
        refine x_aload_n dX12_clause_135 rfl rfl ?_
        refine x_cV0 dX12_clause_136 lv_X12_235 mm_obj rfl rfl rfl  (c_X12_sum (k := 6) hR' (by decide) rfl (show sk b n r + 1 ≤ n by omega) ?_)
        refine ⟨fun q1 es hok q2 hq2 hsk2 => ?_, fun x' herr w a e' => ?_⟩
        · rw [hok] at hgA
          obtain ⟨g1, g2, g3, g4, g5⟩ := hgA.1 q1 es rfl
          rw [hok, pBind_ok] at hq
          have h3 := hq.1 q1 _ rfl q2 hq2 hsk2
          rw [clB hl h1 h2 g3 g5] at h3
          refine x_istore_n dX12_clause_139 rfl (by decide) ?_
          refine x_loc _ (?_ : lle _ _) (cla_140 (lab := lab) (w := vl L ds) (x := vl L es) h3)
          exact ⟨rfl, rfl, rfl, rfl, trivial⟩
        · rw [herr, pBind_er] at hq
          have hne := nI_n1 (x := x') (by have := hgA.2 x' herr; omega)
          refine x_istore_n dX12_clause_139 rfl (by decide) ?_
          refine x_loc _ (?_ : lle _ _) (cla_140e (lab := lab) (w := vl L ds) (x := w) hne (hq.2 x' rfl a e'))
          exact ⟨rfl, rfl, rfl, rfl, trivial⟩
      · intro hl2
        exact absurd (hlk.trans hy) hl2
  · rw [e, pBind_er] at hq
    constructor
    · refine x_aload_n dX12_clause_77 rfl rfl ?_
      refine x_bipush (v := 63) dX12_clause_78 (by decide) ?_
      refine x_cV1 dX12_clause_80 lv_X12_238 mm_obj rfl rfl rfl  (c_takes1 hi hx hr0 ?_ ?_)
      · intro hl2
        exact absurd (hlk.symm.trans hl2) hy
      · intro _
        rw [hsk]
        refine x_if_ne (tgt := 87) dX12_clause_83 (by decide) (fun z => absurd rfl z) (fun _ => ?_)
        exact x_return dX12_clause_86 rfl (hq.2 _ rfl _ _)
    · refine x_aload_n dX12_clause_125 rfl rfl ?_
      refine x_bipush (v := 63) dX12_clause_126 (by decide) ?_
      refine x_cV1 dX12_clause_128 lv_X12_238 mm_obj rfl rfl rfl  (c_takes1 hi hx hr0 ?_ ?_)
      · intro hl2
        exact absurd (hlk.symm.trans hl2) hy
      · intro _
        rw [hsk]
        refine x_if_ne (tgt := 135) dX12_clause_131 (by decide) (fun z => absurd rfl z) (fun _ => ?_)
        exact x_return dX12_clause_134 rfl (hq.2 _ rfl _ _)
theorem c_X12_clause (hR : RdC G ad σ b n L) (hp : p ≤ n) (hq : CQ ad σ b n L v h (pClause b n p) Q) : CT G (d + 47) (0, 0) MX12_clause [.ref (ad 99)] (mm ad (pS σ (nI p) (-1) 0 v h)) Q := by
  have hR' := hR
  obtain ⟨hi, hx, -, hbd, hz, -, ⟨tx, la, hlR, hlS⟩⟩ := hR
  have hlS' := hlS
  obtain ⟨lvv, hlO, -⟩ := hlS
  have hn3 := hx.n31
  have hskn := sk_le (b := b) hp
  refine CT.of rfl (Nat.le_of_ble_eq_true rfl) ?_
  unfold pClause at hq
  by_cases hl : isLab (lk b n p) = true
  · rw [if_pos (show pLabels.any (fun c => decide (lk b n p = c)) = true from hl)] at hq
    have hne : ¬ lk b n p = -1 := by intro z; rw [z] at hl; revert hl; decide
    have hlt := lk_lt hne
    have hp1 : sk b n p + 1 ≤ n := hlt
    rcases take_or (b := b) (n := n) (p := sk b n p + 1) (c := 58) (cs := [-lk b n p]) (by decide) with ⟨hy, hlt2, e⟩ | ⟨hy, e⟩
    · rw [e, pBind_ok] at hq
      have hp2 : sk b n (sk b n p + 1) + 1 ≤ n := hlt2
      generalize hP : sk b n (sk b n p + 1) + 1 = P at hq hp2
      have hskP := sk_le (b := b) hp2
      refine x_aload_n dX12_clause_0 rfl rfl ?_
      refine x_cV0 dX12_clause_1 lv_X12_208 mm_obj rfl rfl rfl  (c_X12_look hi hx hp ?_)
      refine x_istore_n dX12_clause_4 rfl (by decide) ?_
      refine x_iload_n dX12_clause_5 rfl rfl ?_
      refine x_iconst (v := -1) dX12_clause_6 (by decide) ?_
      refine x_icmp_eq (tgt := 20) dX12_clause_7 (by decide) (fun z => absurd z hne) (fun _ => ?_)
      refine x_ldcwS dX12_clause_10 hlR ?_
      refine x_iload_n dX12_clause_13 rfl rfl ?_
      refine x_oV1 dX12_clause_14 lv_X12_227 hlO rfl rfl  (c_J0_indexOf hz (by decide) lb_lab hlS' ?_)
      refine x_if_ge (tgt := 26) dX12_clause_17 (by decide) (fun _ => ?_) (fun z => absurd (sx_lab_t hl) z)
      refine x_aload_n dX12_clause_26 rfl rfl ?_
      refine x_dup dX12_clause_27 rfl ?_
      refine xm_geti dX12_clause_28 lf_X12_189 vmi_29 ?_
      refine x_iconst (v := 1) dX12_clause_31 (by decide) ?_
      refine x_iadd dX12_clause_32 ?_
      refine xm_puti dX12_clause_33 lp_X12_189 vmq_29 vmn_29 vmf_29 ?_
      rw [pS_inc]
      refine x_aload_n dX12_clause_36 rfl rfl ?_
      refine x_bipush (v := 58) dX12_clause_37 (by decide) ?_
      refine x_cV1 dX12_clause_39 lv_X12_238 mm_obj rfl rfl rfl  (c_takes1 hi hx hp1 ?_ ?_)
      · intro _
        rw [hP]
        by_cases hc : lk b n P = 33 ∨ lk b n P = 40
        · rw [if_pos (Bool.or_eq_true_iff.mpr (hc.elim (fun z => Or.inl (see_eq.mpr z)) (fun z => Or.inr (see_eq.mpr z))))] at hq
          have hgA := (Gd_UC (b := b) hbd 6).2 P hp2
          have hmk : PQb ad σ b n L v h 0 (pCond1 b n (pUC b n 6).1 (sk b n P)) (fun r M' => XJ G (d + 46 + 1) (0, 0) MX12_clause M' [(0, .ref (ad 99)), (1, .int (lk b n p))] (rpush r []) 76 Q) := by
            rw [← pUC2_eq, pUC2_of (sk_sk hp2)]
            refine ⟨fun q1 ds hok q2 hq2 hsk2 => ?_, fun x' herr w a e' hw => ?_⟩
            · rw [hok] at hgA
              obtain ⟨g1, g2, g3, g4, g5⟩ := hgA.1 q1 ds rfl
              rw [hok, pBind_ok] at hq
              have ht := (cla_then (d := d + 22) hR' hl hq2 hsk2 g2 g3 g5 hq).1
              show XJ G (d + 46 + 1) (0, 0) MX12_clause _ _ [Value.int (vl L ds)] 76 Q
              refine x_istore_n dX12_clause_76 rfl (by decide) ?_
              refine x_loc _ (?_ : lle _ _) ht
              exact ⟨rfl, rfl, rfl, trivial⟩
            · rw [herr, pBind_er] at hq
              have hne := nI_n1 (x := x') (by have := hgA.2 x' herr; omega)
              show XJ G (d + 46 + 1) (0, 0) MX12_clause _ _ [Value.int w] 76 Q
              refine x_istore_n dX12_clause_76 rfl (by decide) ?_
              refine x_aload_n dX12_clause_77 rfl rfl ?_
              refine x_bipush (v := 63) dX12_clause_78 (by decide) ?_
              refine x_cV1 dX12_clause_80 lv_X12_238 mm_obj rfl rfl rfl  (c_takesE hne ?_)
              refine x_if_ne (tgt := 87) dX12_clause_83 (by decide) (fun z => absurd rfl z) (fun _ => ?_)
              exact x_return dX12_clause_86 rfl (hq.2 x' rfl _ _)
          refine x_if_ne (tgt := 46) dX12_clause_42 (by decide) (fun _ => ?_) (fun z => absurd z (by decide))
          refine x_iconst (v := 1) dX12_clause_46 (by decide) ?_
          refine x_istore_n dX12_clause_47 rfl (by decide) ?_
          refine x_iconst (v := 0) dX12_clause_48 (by decide) ?_
          refine x_istore_n dX12_clause_49 rfl (by decide) ?_
          refine x_aload_n dX12_clause_50 rfl rfl ?_
          refine x_cV0 dX12_clause_51 lv_X12_208 mm_obj rfl rfl rfl  (c_X12_look hi hx hp2 ?_)
          refine x_istore dX12_clause_54 (by decide) ?_
          refine x_iload dX12_clause_56 rfl ?_
          refine x_bipush (v := 33) dX12_clause_58 (by decide) ?_
          refine x_icmp_eq (tgt := 70) dX12_clause_60 (by decide) (fun h60 => ?_) (fun h60 => ?_)
          · refine x_aload_n dX12_clause_70 rfl rfl ?_
            refine x_iconst (v := 0) dX12_clause_71 (by decide) ?_
            refine x_iconst (v := 0) dX12_clause_72 (by decide) ?_
            refine x_cV2 dX12_clause_73 lv_X12_260 mm_obj rfl rfl rfl  (c_cond0 (d := d + 18) hR' (UC6 hR' d) hskP ?_)
            have := hmk
            refine ⟨fun q1 ds hok q2 hq2 hsk2 => x_loc _ (?_ : lle _ _) (hmk.1 q1 ds hok q2 hq2 hsk2), fun x' herr w a e' hw => x_loc _ (?_ : lle _ _) (hmk.2 x' herr w a e' hw)⟩
            · exact ⟨rfl, rfl, trivial⟩
            · exact ⟨rfl, rfl, trivial⟩
          · refine x_iload dX12_clause_63 rfl ?_
            refine x_bipush (v := 40) dX12_clause_65 (by decide) ?_
            refine x_icmp_ne (tgt := 95) dX12_clause_67 (by decide) (fun z => absurd (hc.elim (fun z => absurd z h60) id) z) (fun _ => ?_)
            refine x_aload_n dX12_clause_70 rfl rfl ?_
            refine x_iconst (v := 0) dX12_clause_71 (by decide) ?_
            refine x_iconst (v := 0) dX12_clause_72 (by decide) ?_
            refine x_cV2 dX12_clause_73 lv_X12_260 mm_obj rfl rfl rfl  (c_cond0 (d := d + 18) hR' (UC6 hR' d) hskP ?_)
            have := hmk
            refine ⟨fun q1 ds hok q2 hq2 hsk2 => x_loc _ (?_ : lle _ _) (hmk.1 q1 ds hok q2 hq2 hsk2), fun x' herr w a e' hw => x_loc _ (?_ : lle _ _) (hmk.2 x' herr w a e' hw)⟩
            · exact ⟨rfl, rfl, trivial⟩
            · exact ⟨rfl, rfl, trivial⟩
        · have hc1 : ¬ lk b n P = 33 := fun z => hc (Or.inl z)
          have hc2 : ¬ lk b n P = 40 := fun z => hc (Or.inr z)
          rw [if_neg (fun z => by
            rcases Bool.or_eq_true_iff.mp z with y | y
            · exact hc1 (see_eq.mp y)
            · exact hc2 (see_eq.mp y))] at hq
          have hgA := Gd_sum (b := b) hbd 6 hp2
          refine x_if_ne (tgt := 46) dX12_clause_42 (by decide) (fun _ => ?_) (fun z => absurd z (by decide))
          refine x_iconst (v := 1) dX12_clause_46 (by decide) ?_
          refine x_istore_n dX12_clause_47 rfl (by decide) ?_
          refine x_iconst (v := 0) dX12_clause_48 (by decide) ?_
          refine x_istore_n dX12_clause_49 rfl (by decide) ?_
          refine x_aload_n dX12_clause_50 rfl rfl ?_
          refine x_cV0 dX12_clause_51 lv_X12_208 mm_obj rfl rfl rfl  (c_X12_look hi hx hp2 ?_)
          refine x_istore dX12_clause_54 (by decide) ?_
          refine x_iload dX12_clause_56 rfl ?_
          refine x_bipush (v := 33) dX12_clause_58 (by decide) ?_
          refine x_icmp_eq (tgt := 70) dX12_clause_60 (by decide) (fun z => absurd z hc1) (fun _ => ?_)
          refine x_iload dX12_clause_63 rfl ?_
          refine x_bipush (v := 40) dX12_clause_65 (by decide) ?_
          refine x_icmp_ne (tgt := 95) dX12_clause_67 (by decide) (fun _ => ?_) (fun z => absurd z hc2)
          refine x_aload_n dX12_clause_95 rfl rfl ?_
          refine x_cV0 dX12_clause_96 lv_X12_235 mm_obj rfl rfl rfl  (c_X12_sum (d := d + 22) (k := 6) hR' (by decide) rfl hskP ?_)
          rw [pSum_of (sk_sk hp2) 6]
          refine ⟨fun q1 ds hok q2 hq2 hsk2 => ?_, fun x' herr w a e' => ?_⟩
          · rw [hok] at hgA
            obtain ⟨g1, g2, g3, g4, g5⟩ := hgA.1 q1 ds rfl
            rw [hok, pBind_ok] at hq
            have hlk2 := lk_of hsk2
            by_cases hr : isSg (lk b n q1)
            · rw [if_pos (sg_rel.mp hr)] at hq
              have hg2 := Gd_bind (Gd_bind (Gd_rel (b := b) (S := pSum b n 6) (fun p hp => Gd_sum (b := b) hbd 6 hp) hgA) (fun q cs hg _ _ => Gd_units (b := b) (Gd_UC (b := b) hbd 6).1 hg)) (fun q cs hg _ _ => Gd_parts (b := b) (Gd_UC (b := b) hbd 6).1 hg)
              refine x_istore_n dX12_clause_99 rfl (by decide) ?_
              refine x_aload_n dX12_clause_100 rfl rfl ?_
              refine xm_geti dX12_clause_101 lf_X12_198 vmi_30 ?_
              refine x_iconst (v := -1) dX12_clause_104 (by decide) ?_
              refine x_icmp_ne (tgt := 140) dX12_clause_105 (by decide) (fun z => absurd rfl z) (fun _ => ?_)
              refine x_aload_n dX12_clause_108 rfl rfl ?_
              refine x_cV0 dX12_clause_109 lv_X12_208 mm_obj rfl rfl rfl  (c_X12_look hi hx hq2 ?_)
              rw [hlk2, hsk2]
              refine x_cS1 dX12_clause_112 ls_X12_254 rfl  (c_X12_isSign ?_)
              refine x_if_eq_b (tgt := 140) dX12_clause_115 (by decide) (fun z => absurd hr z) (fun _ => ?_)
              refine x_aload_n dX12_clause_118 rfl rfl ?_
              refine x_iconst (v := 1) dX12_clause_119 (by decide) ?_
              refine x_iload_n dX12_clause_120 rfl rfl ?_
              refine x_cV2 dX12_clause_121 lv_X12_260 mm_obj rfl rfl rfl  (c_cond1 (d := d + 18) (k := 6) hR' (UC6 hR' d) (by decide) rfl (sk_le g2) (sk_sk g2) hgA ?_)
              refine ⟨fun q3 es hok2 q4 hq4 hsk4 => ?_, fun x' herr w a e' hw => ?_⟩
              · rw [hok2] at hg2
                obtain ⟨f1, f2, f3, f4, f5⟩ := hg2.1 q3 es rfl
                rw [hok2, pBind_ok] at hq
                have ht := (cla_then (d := d + 22) hR' hl hq4 hsk4 f2 f3 f5 hq).2
                refine x_istore_n dX12_clause_124 rfl (by decide) ?_
                refine x_loc _ (?_ : lle _ _) ht
                exact ⟨rfl, rfl, rfl, trivial⟩
              · rw [herr, pBind_er] at hq
                have hne := nI_n1 (x := x') (by have := hg2.2 x' herr; omega)
                refine x_istore_n dX12_clause_124 rfl (by decide) ?_
                refine x_aload_n dX12_clause_125 rfl rfl ?_
                refine x_bipush (v := 63) dX12_clause_126 (by decide) ?_
                refine x_cV1 dX12_clause_128 lv_X12_238 mm_obj rfl rfl rfl  (c_takesE hne ?_)
                refine x_if_ne (tgt := 135) dX12_clause_131 (by decide) (fun z => absurd rfl z) (fun _ => ?_)
                exact x_return dX12_clause_134 rfl (hq.2 x' rfl _ _)
            · rw [if_neg (fun z => hr (sg_rel.mpr z))] at hq
              have h3 := hq.1 q1 _ rfl (sk b n q1) (sk_le g2) (sk_sk g2)
              rw [clA hl g3 g5] at h3
              refine x_istore_n dX12_clause_99 rfl (by decide) ?_
              refine x_aload_n dX12_clause_100 rfl rfl ?_
              refine xm_geti dX12_clause_101 lf_X12_198 vmi_30 ?_
              refine x_iconst (v := -1) dX12_clause_104 (by decide) ?_
              refine x_icmp_ne (tgt := 140) dX12_clause_105 (by decide) (fun z => absurd rfl z) (fun _ => ?_)
              refine x_aload_n dX12_clause_108 rfl rfl ?_
              refine x_cV0 dX12_clause_109 lv_X12_208 mm_obj rfl rfl rfl  (c_X12_look hi hx hq2 ?_)
              rw [hlk2, hsk2]
              refine x_cS1 dX12_clause_112 ls_X12_254 rfl  (c_X12_isSign ?_)
              refine x_if_eq_b (tgt := 140) dX12_clause_115 (by decide) (fun _ => ?_) (fun z => absurd z hr)
              refine x_loc _ (?_ : lle _ _) (cla_140 (lab := lk b n p) (w := 1) (x := vl L ds) h3)
              exact ⟨rfl, rfl, rfl, rfl, trivial⟩
          · rw [herr, pBind_er] at hq
            have hne := nI_n1 (x := x') (by have := hgA.2 x' herr; omega)
            refine x_istore_n dX12_clause_99 rfl (by decide) ?_
            refine x_aload_n dX12_clause_100 rfl rfl ?_
            refine xm_geti dX12_clause_101 lf_X12_198 vmi_30 ?_
            refine x_iconst (v := -1) dX12_clause_104 (by decide) ?_
            refine x_icmp_ne (tgt := 140) dX12_clause_105 (by decide) (fun _ => ?_) (fun z => absurd z hne)
            refine x_loc _ (?_ : lle _ _) (cla_140e (lab := lk b n p) (w := 1) (x := w) hne (hq.2 x' rfl a e'))
            exact ⟨rfl, rfl, rfl, rfl, trivial⟩
      · intro hl2
        exact absurd hy hl2
    · rw [e, pBind_er] at hq
      refine x_aload_n dX12_clause_0 rfl rfl ?_
      refine x_cV0 dX12_clause_1 lv_X12_208 mm_obj rfl rfl rfl  (c_X12_look hi hx hp ?_)
      refine x_istore_n dX12_clause_4 rfl (by decide) ?_
      refine x_iload_n dX12_clause_5 rfl rfl ?_
      refine x_iconst (v := -1) dX12_clause_6 (by decide) ?_
      refine x_icmp_eq (tgt := 20) dX12_clause_7 (by decide) (fun z => absurd z hne) (fun _ => ?_)
      refine x_ldcwS dX12_clause_10 hlR ?_
      refine x_iload_n dX12_clause_13 rfl rfl ?_
      refine x_oV1 dX12_clause_14 lv_X12_227 hlO rfl rfl  (c_J0_indexOf hz (by decide) lb_lab hlS' ?_)
      refine x_if_ge (tgt := 26) dX12_clause_17 (by decide) (fun _ => ?_) (fun z => absurd (sx_lab_t hl) z)
      refine x_aload_n dX12_clause_26 rfl rfl ?_
      refine x_dup dX12_clause_27 rfl ?_
      refine xm_geti dX12_clause_28 lf_X12_189 vmi_29 ?_
      refine x_iconst (v := 1) dX12_clause_31 (by decide) ?_
      refine x_iadd dX12_clause_32 ?_
      refine xm_puti dX12_clause_33 lp_X12_189 vmq_29 vmn_29 vmf_29 ?_
      rw [pS_inc]
      refine x_aload_n dX12_clause_36 rfl rfl ?_
      refine x_bipush (v := 58) dX12_clause_37 (by decide) ?_
      refine x_cV1 dX12_clause_39 lv_X12_238 mm_obj rfl rfl rfl  (c_takes1 hi hx hp1 ?_ ?_)
      · intro hl2
        exact absurd hl2 hy
      · intro _
        refine x_if_ne (tgt := 46) dX12_clause_42 (by decide) (fun z => absurd rfl z) (fun _ => ?_)
        exact x_return dX12_clause_45 rfl (hq.2 _ rfl _ _)
  · rw [if_neg (show ¬ pLabels.any (fun c => decide (lk b n p = c)) = true from hl)] at hq
    refine x_aload_n dX12_clause_0 rfl rfl ?_
    refine x_cV0 dX12_clause_1 lv_X12_208 mm_obj rfl rfl rfl  (c_X12_look hi hx hp ?_)
    refine x_istore_n dX12_clause_4 rfl (by decide) ?_
    refine x_iload_n dX12_clause_5 rfl rfl ?_
    refine x_iconst (v := -1) dX12_clause_6 (by decide) ?_
    refine x_icmp_eq (tgt := 20) dX12_clause_7 (by decide) (fun h7 => ?_) (fun h7 => ?_)
    · refine x_aload_n dX12_clause_20 rfl rfl ?_
      refine x_cV0 dX12_clause_21 lv_X12_204 mm_obj rfl rfl rfl  (c_X12_fails ?_)
      rw [ff_1]
      refine x_pop dX12_clause_24 rfl ?_
      exact x_return dX12_clause_25 rfl (hq.2 _ rfl _ _)
    · refine x_ldcwS dX12_clause_10 hlR ?_
      refine x_iload_n dX12_clause_13 rfl rfl ?_
      refine x_oV1 dX12_clause_14 lv_X12_227 hlO rfl rfl  (c_J0_indexOf hz (by decide) lb_lab hlS' ?_)
      refine x_if_ge (tgt := 26) dX12_clause_17 (by decide) (fun z => absurd z (by rw [show sxF pLabels (lk b n p) pLabels.length 0 = -1 from sx_lab_f hl]; decide)) (fun _ => ?_)
      refine x_aload_n dX12_clause_20 rfl rfl ?_
      refine x_cV0 dX12_clause_21 lv_X12_204 mm_obj rfl rfl rfl  (c_X12_fails ?_)
      rw [ff_1]
      refine x_pop dX12_clause_24 rfl ?_
      exact x_return dX12_clause_25 rfl (hq.2 _ rfl _ _)
end MDR
