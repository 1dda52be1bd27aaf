/-! what every step keeps, 3: codes are no less than -200; rules; what is fed -/
def Lo (x : PR) : Prop := ∀ q cs, x = .ok (q, cs) → ∀ c ∈ cs, (-200 : Int32) ≤ c
theorem Lo_er {e : Nat} : Lo (.error e) := fun q cs z => by cases z
theorem Lo_ok {q : Nat} {cs : List Int32} (h : ∀ c ∈ cs, (-200 : Int32) ≤ c) : Lo (.ok (q, cs)) := fun q' cs' z => by cases z; exact h
theorem Lo_bind {x : PR} {f : Nat → List Int32 → PR} (hx : Lo x) (hf : ∀ q cs, (∀ c ∈ cs, (-200 : Int32) ≤ c) → Lo (f q cs)) : Lo (pBind x f) := by
  cases x with
  | error e => exact Lo_er
  | ok a => obtain ⟨q, cs⟩ := a; exact hf q cs (hx q cs rfl)
theorem Lo_app {cs ds : List Int32} (h1 : ∀ c ∈ cs, (-200 : Int32) ≤ c) (h2 : ∀ c ∈ ds, (-200 : Int32) ≤ c) : ∀ c ∈ cs ++ ds, (-200 : Int32) ≤ c := fun c hc => (List.mem_append.mp hc).elim (h1 c) (h2 c)
theorem Lo_one {x : Int32} (h : (-200 : Int32) ≤ x) : ∀ c ∈ [x], (-200 : Int32) ≤ c := fun c hc => by rw [List.mem_singleton.mp hc]; exact h
theorem see_lo {b : Nat → Int32} {n p : Nat} {s : Int32} (h : pSee b n p s = true) (hs : (-200 : Int32) ≤ -s) : (-200 : Int32) ≤ -lk b n p := by
  rw [of_decide_eq_true h]; exact hs
section LO
variable {b : Nat → Int32} {n : Nat}
theorem Lo_take {q : Nat} {c : Int32} {cs : List Int32} (h : ∀ c ∈ cs, (-200 : Int32) ≤ c) : Lo (pTake b n q c cs) := by
  unfold pTake
  split
  · exact Lo_ok h
  · exact Lo_er
theorem Lo_num : ∀ (f p m : Nat), m < 10 ^ (4 - f) → f ≤ 4 → Lo (pNum b n f p (nI m))
  | f, p, m, hm, hf => by
    have hm2 : m < 10000 := Nat.lt_of_lt_of_le hm (Nat.pow_le_pow_right (by decide) (by omega : 4 - f ≤ 4))
    have hdone : Lo (.ok (p, [nI m])) := Lo_ok (Lo_one (Int32.le_trans (by decide : (-200 : Int32) ≤ 0) (nI_pos' (by omega))))
    cases f with
    | zero =>
      unfold pNum
      split
      · exact Lo_er
      · exact hdone
    | succ f =>
      unfold pNum
      split
      · rename_i hd
        obtain ⟨d, hd9, hst⟩ := dig_st (b := b) (n := n) (p := p) hd
        have e := hst m
        rw [e]
        have e10 : 10 ^ (4 - f) = 10 * 10 ^ (4 - (f + 1)) := by
          rw [show 4 - f = (4 - (f + 1)) + 1 by omega, Nat.pow_succ, Nat.mul_comm]
        exact Lo_num f (p + 1) (10 * m + d) (by rw [e10]; omega) (by omega)
      · exact hdone
  termination_by f => f
theorem any_lo {l : List Int32} (hl : ∀ c ∈ l, (-200 : Int32) ≤ -c) {x : Int32} (h : l.any (fun c => decide (x = c)) = true) : (-200 : Int32) ≤ -x := by
  obtain ⟨c, h1, h2⟩ := List.any_eq_true.mp h
  rw [of_decide_eq_true h2]; exact hl c h1
theorem Lo_atom {S : Option (Nat → PR)} (hS : ∀ s, S = some s → ∀ p, Lo (s p)) (p : Nat) : Lo (pAtom b n S p) := by
  unfold pAtom
  split
  · rename_i h
    exact Lo_ok (Lo_one (any_lo (by decide) h))
  · split
    · cases S with
      | none => exact Lo_er
      | some s => exact Lo_bind (hS s rfl _) (fun q cs h => Lo_take h)
    · split
      · exact Lo_num 4 _ 0 (by decide) (by decide)
      · exact Lo_er
theorem Lo_more {A : Nat → PR} {s t : Int32} (hA : ∀ p, Lo (A p)) (hs : (-200 : Int32) ≤ -s) (ht : (-200 : Int32) ≤ -t) : ∀ (f p : Nat) (cs : List Int32), (∀ c ∈ cs, (-200 : Int32) ≤ c) → Lo (pMore b n A s t f p cs)
  | 0, p, cs, h => Lo_ok h
  | f + 1, p, cs, h => by
    unfold pMore
    split
    · rename_i z
      refine Lo_bind (hA _) (fun q ds hd => Lo_more hA hs ht f q _ (Lo_app (Lo_app h hd) (Lo_one ?_)))
      rcases Bool.or_eq_true_iff.mp z with z | z
      · exact see_lo z hs
      · exact see_lo z ht
    · exact Lo_ok h
theorem Lo_term {S : Option (Nat → PR)} (hS : ∀ s, S = some s → ∀ p, Lo (s p)) (p : Nat) : Lo (pTerm b n S p) := Lo_bind (Lo_atom hS p) (fun q cs h => Lo_more (Lo_atom hS) (by decide) (by decide) n q cs h)
theorem Lo_sum1 {S : Option (Nat → PR)} (hS : ∀ s, S = some s → ∀ p, Lo (s p)) (p : Nat) : Lo (pSum1 b n S p) := Lo_bind (Lo_term hS p) (fun q cs h => Lo_more (Lo_term hS) (by decide) (by decide) n q cs h)
theorem Lo_sum : ∀ (k p : Nat), Lo (pSum b n k p)
  | 0, p => Lo_sum1 (fun s h => by cases h) p
  | k + 1, p => Lo_sum1 (fun s h p => by cases h; exact Lo_sum k p) p
theorem Lo_rel {S : Nat → PR} (hS : ∀ p, Lo (S p)) {p : Nat} {cs : List Int32} (h : ∀ c ∈ cs, (-200 : Int32) ≤ c) : Lo (pRel b n S p cs) := by
  unfold pRel
  split
  · rename_i z
    refine Lo_bind (hS _) (fun q ds hd => Lo_ok (Lo_app (Lo_app h hd) (Lo_one ?_)))
    rcases Bool.or_eq_true_iff.mp z with z | z
    · rcases Bool.or_eq_true_iff.mp z with z | z
      · exact see_lo z (by decide)
      · exact see_lo z (by decide)
    · exact see_lo z (by decide)
  · exact Lo_er
theorem Lo_unit1 {UC : Option ((Nat → PR) × (Nat → PR))} {S : Nat → PR} (hS : ∀ p, Lo (S p)) (hU : ∀ u, UC = some u → ∀ p, Lo (u.1 p) ∧ Lo (u.2 p)) (p : Nat) : Lo (pUnit1 b n UC S p) := by
  unfold pUnit1
  split
  · cases UC with
    | none => exact Lo_er
    | some u => exact Lo_bind (hU u rfl _).1 (fun q cs h => Lo_ok (Lo_app h (Lo_one (by decide))))
  · split
    · cases UC with
      | none => exact Lo_er
      | some u => exact Lo_bind (hU u rfl _).2 (fun q cs h => Lo_take h)
    · exact Lo_bind (hS p) (fun q cs h => Lo_rel hS h)
theorem Lo_units {U : Nat → PR} (hU : ∀ p, Lo (U p)) {p : Nat} {cs : List Int32} (h : ∀ c ∈ cs, (-200 : Int32) ≤ c) : Lo (pUnits b n U p cs) := Lo_more hU (by decide) (by decide) n p cs h
theorem Lo_part1 {U : Nat → PR} (hU : ∀ p, Lo (U p)) (p : Nat) : Lo (pPart1 b n U p) := Lo_bind (hU p) (fun q cs h => Lo_units hU h)
theorem Lo_parts {U : Nat → PR} (hU : ∀ p, Lo (U p)) {p : Nat} {cs : List Int32} (h : ∀ c ∈ cs, (-200 : Int32) ≤ c) : Lo (pParts b n U p cs) := Lo_more (Lo_part1 hU) (by decide) (by decide) n p cs h
theorem Lo_cond1 {U : Nat → PR} (hU : ∀ p, Lo (U p)) (p : Nat) : Lo (pCond1 b n U p) := Lo_bind (Lo_part1 hU p) (fun q cs h => Lo_parts hU h)
theorem Lo_UC : ∀ (k p : Nat), Lo ((pUC b n k).1 p) ∧ Lo ((pUC b n k).2 p)
  | 0, p => by
    have h1 : ∀ p, Lo (pUnit1 b n none (pSum b n 0) p) := fun p => Lo_unit1 (Lo_sum 0) (fun u h => by cases h) p
    exact ⟨h1 p, Lo_cond1 h1 p⟩
  | k + 1, p => by
    have h1 : ∀ p, Lo (pUnit1 b n (some (pUC b n k)) (pSum b n (k + 1)) p) := fun p => Lo_unit1 (Lo_sum (k + 1)) (fun u h p => by cases h; exact Lo_UC k p) p
    exact ⟨h1 p, Lo_cond1 h1 p⟩
theorem Lo_then {p : Nat} {cs : List Int32} (h : ∀ c ∈ cs, (-200 : Int32) ≤ c) : Lo (pThen b n p cs) := Lo_bind (Lo_take h) (fun q ds hd => Lo_bind (Lo_sum 6 q) (fun r es he => Lo_ok (Lo_app (Lo_app (Lo_app hd (Lo_one (by decide))) he) (Lo_one (by decide)))))
theorem Lo_clause (p : Nat) : Lo (pClause b n p) := by
  unfold pClause
  split
  · rename_i z
    refine Lo_bind (Lo_take (Lo_one (any_lo (by decide) z))) (fun q cs h => ?_)
    split
    · exact Lo_bind (Lo_UC 6 q).2 (fun r ds hd => Lo_then (Lo_app h hd))
    · refine Lo_bind (Lo_sum 6 q) (fun r ds hd => ?_)
      split
      · exact Lo_bind (Lo_bind (Lo_bind (Lo_rel (Lo_sum 6) hd) (fun q cs h => Lo_units (fun p => (Lo_UC 6 p).1) h)) (fun q cs h => Lo_parts (fun p => (Lo_UC 6 p).1) h)) (fun r2 es he => Lo_then (Lo_app h he))
      · exact Lo_ok (Lo_app (Lo_app h hd) (Lo_one (by decide)))
  · exact Lo_er
theorem Lo_clauses : ∀ (f p : Nat) (cs : List Int32), (∀ c ∈ cs, (-200 : Int32) ≤ c) → Lo (pClauses b n f p cs)
  | 0, p, cs, h => Lo_ok h
  | f + 1, p, cs, h => by
    unfold pClauses
    split
    · exact Lo_bind (Lo_clause _) (fun q ds hd => Lo_clauses f q _ (Lo_app h hd))
    · exact Lo_ok h
theorem Lo_rule : Lo (pRule b n) := Lo_bind (Lo_bind (Lo_clause 0) (fun q cs h => Lo_clauses n q cs h)) (fun p cs h => by
  show Lo (if pSee b n p (-1) then .ok (p, cs) else .error (sk b n p))
  split
  · exact Lo_ok h
  · exact Lo_er)
theorem rule_cd {q : Nat} {cs : List Int32} (h : pRule b n = .ok (q, cs)) (hn : n ≤ 160) : cs.length ≤ 160 ∧ ∀ c ∈ cs, (-200 : Int32) ≤ c := by
  have hg := (Gc_rule (b := b) (n := n) (L := fun _ => 0) (lb := 113) (fun _ => ⟨by decide, by decide⟩)).1 q cs h
  exact ⟨by omega, Lo_rule q cs h⟩
end LO
section KRU
variable {σ : MS}
theorem K_rule {fr : Int32} (hc : Cnt σ) (hS : Sb σ) : Cnt (nRule σ fr) ∧ Sb (nRule σ fr) := by
  unfold nRule
  by_cases hp : pRuleT σ fr
  · rw [cI_t hp]
    obtain ⟨hf, hn, hd⟩ := hp
    obtain ⟨e1, e2⟩ := hc.b 25 (b := 20) (by decide)
    obtain ⟨t1, t2⟩ := hc.b 24 (b := 160) (by decide)
    have h25 : (oRule σ fr).1 25 = σ.1 25 + 1 := by
      show updB (updB (cpyT σ (cn σ 24)).1 25 (σ.1 25 + 1)) 24 0 25 = _
      rw [updB_ne (by decide), updB_eq]
    have h24 : (oRule σ fr).1 24 = 0 := (show updB (updB (cpyT σ (cn σ 24)).1 25 (σ.1 25 + 1)) 24 0 24 = 0 from updB_eq)
    obtain ⟨u1, u2⟩ := up_n (σ' := oRule σ fr) ⟨e1, e2⟩ (by decide) h25
    have hn' := ne_lt (b := 20) ⟨e1, e2⟩ hn
    obtain ⟨q, cs, hok⟩ : ∃ q cs, pRule (σ.2 18) (cn σ 24) = .ok (q, cs) := by
      cases e : pRule (σ.2 18) (cn σ 24) with
      | ok a => exact ⟨a.1, a.2, rfl⟩
      | error x =>
        have hx := (Gc_rule (b := σ.2 18) (n := cn σ 24) (L := fun _ => 0) (lb := 113) (fun _ => ⟨by decide, by decide⟩)).2 x e
        rw [aFau_er e] at hf
        exact absurd hf (nI_n1 (by omega))
    have hcd := rule_cd hok t2
    have hRl : ∀ r, r < cn σ 25 → (σ.2 20 r).toNatClampNeg ≤ 160 := fun r hr => by
      obtain ⟨n, q, cs, h1, h2, -⟩ := hS.2.1.1 r hr
      rw [h1, nI_clamp (by omega)]; exact h2
    refine ⟨fun q hq => ?_, ?_, ⟨fun r hr => ?_, fun r hr => ?_, fun r hr => ?_⟩, ?_⟩
    · by_cases z1 : q.1 = 24
      · refine ⟨?_, ?_⟩
        · unfold cn; rw [z1, h24]; rfl
        · unfold cn; rw [z1, h24]; exact Nat.zero_le _
      · by_cases z2 : q.1 = 25
        · have u : ∀ q ∈ mBnd, q.1 = 25 → q.2 = 20 := by decide
          have hq2 := u q hq z2
          unfold Bnd
          rw [z2, hq2, u1]
          exact ⟨u2, hn'⟩
        · have h1 := hc q hq
          unfold Bnd cn at *
          rw [oRule_1 z1 z2]; exact h1
    · have hk : SbL (oRule σ fr) := kp_use (P := SbL) [1, 15, 16] [2, 3, 4, 8, 9, 10, 11, 13, 14] (fun _ => rfl) (fun k hk => oRule_1 ((by decide : ∀ k ∈ [1, 15, 16], ¬ k = 24) k hk) ((by decide : ∀ k ∈ [1, 15, 16], ¬ k = 25) k hk)) (fun r hr => oRule_2 ((by decide : ∀ k ∈ [2, 3, 4, 8, 9, 10, 11, 13, 14], ¬ k = 19) r hr) ((by decide : ∀ k ∈ [2, 3, 4, 8, 9, 10, 11, 13, 14], ¬ k = 20) r hr) ((by decide : ∀ k ∈ [2, 3, 4, 8, 9, 10, 11, 13, 14], ¬ k = 21) r hr) ((by decide : ∀ k ∈ [2, 3, 4, 8, 9, 10, 11, 13, 14], ¬ k = 22) r hr)) hS.1
      exact hk
    · rw [u1] at hr
      rcases up_c hS.2.1.1 hr with ⟨hi, n, q, cs, h1, h2, h3⟩ | rfl
      · refine ⟨n, q, cs, ?_, h2, ?_⟩
        · rw [oRule_20, updB_ne hi]; exact h1
        · rw [← h3]
          refine pRule_x (fun p hp => ?_)
          show (oRule σ fr).2 19 (160 * r + p) = σ.2 19 (160 * r + p)
          rw [oRule_19, if_neg (by omega)]
      · refine ⟨cn σ 24, q, cs, ?_, t2, ?_⟩
        · rw [oRule_20, updB_eq]; exact t1
        · rw [← hok]
          refine pRule_x (fun p hp => ?_)
          show (oRule σ fr).2 19 (160 * cn σ 25 + p) = _
          rw [oRule_19, if_pos (by omega), show 160 * cn σ 25 + p - 160 * cn σ 25 = p by omega]
    · rw [u1] at hr
      rw [oRule_21]
      rcases up_c hS.2.1.2.1 hr with ⟨hi, h⟩ | rfl
      · rw [updB_ne hi]; exact h
      · rw [updB_eq]; exact hd
    · rw [u1] at hr
      rcases up_c (P := fun r => r < cn σ 25 ∧ (codS σ r).length ≤ 160 ∧ ∀ c ∈ codS σ r, -200 ≤ c) (fun i hi => ⟨hi, hS.2.1.2.2 i hi⟩) hr with ⟨hi, h0, h⟩ | rfl
      · rw [codS_old h0 (hRl r h0)]; exact h
      · rw [codS_new hc hok]; exact hcd
    · exact kp_use (P := fun σ => PerOK σ ∧ MkI σ ∧ BytOK σ ∧ QuB σ ∧ PpB σ ∧ HoB σ) [15, 16, 49, 60, 65] [2, 3, 4, 14, 18, 45, 46, 48, 50, 56, 62] (fun _ => rfl) (fun k hk => oRule_1 ((by decide : ∀ k ∈ [15, 16, 49, 60, 65], ¬ k = 24) k hk) ((by decide : ∀ k ∈ [15, 16, 49, 60, 65], ¬ k = 25) k hk)) (fun r hr => oRule_2 ((by decide : ∀ k ∈ [2, 3, 4, 14, 18, 45, 46, 48, 50, 56, 62], ¬ k = 19) r hr) ((by decide : ∀ k ∈ [2, 3, 4, 14, 18, 45, 46, 48, 50, 56, 62], ¬ k = 20) r hr) ((by decide : ∀ k ∈ [2, 3, 4, 14, 18, 45, 46, 48, 50, 56, 62], ¬ k = 21) r hr) ((by decide : ∀ k ∈ [2, 3, 4, 14, 18, 45, 46, 48, 50, 56, 62], ¬ k = 22) r hr)) hS.2.2
  · rw [cI_f hp]; exact ⟨hc, hS⟩
theorem byt_put (v : Int32) (σ : MS) (h : BytOK σ) : ∀ n, BytOK (putS v n σ)
  | 0 => h
  | n + 1 => by
    have hs : putS v (n + 1) σ = if (v >>> ((nI (24 - 8 * n)) &&& 31)) &&& 255 = 0 then putS v n σ else seti (seta (putS v n σ) 18 (cn (putS v n σ) 24) ((v >>> ((nI (24 - 8 * n)) &&& 31)).toInt8.toInt32).toInt8.toInt32) 24 ((putS v n σ).1 24 + 1) := rfl
    have ih := byt_put v σ h n
    rw [hs]
    split
    · exact ih
    · intro i
      show (updB ((putS v n σ).2 18) (cn (putS v n σ) 24) _ i).toInt8.toInt32 = updB ((putS v n σ).2 18) (cn (putS v n σ) 24) _ i
      by_cases e : i = cn (putS v n σ) 24
      · subst e; rw [updB_eq, Int8.toInt8_toInt32, Int8.toInt8_toInt32]
      · rw [updB_ne e]; exact ih i
theorem fed_of (σ : MS) (a b c e f : Int32) : (∀ k, k ≠ 24 → (nFeed σ a b c e f).1 k = σ.1 k) ∧ ∀ r, r ≠ 18 → (nFeed σ a b c e f).2 r = σ.2 r := by
  unfold nFeed
  by_cases hp : fedTo σ a b c e f ≤ 160
  · rw [cI_t hp]
    exact ⟨fun k hk => ((putS_of f _ 4).1 k hk).trans (((putS_of e _ 4).1 k hk).trans (((putS_of c _ 4).1 k hk).trans (((putS_of b _ 4).1 k hk).trans ((putS_of a _ 4).1 k hk)))), fun k hk => ((putS_of f _ 4).2 k hk).trans (((putS_of e _ 4).2 k hk).trans (((putS_of c _ 4).2 k hk).trans (((putS_of b _ 4).2 k hk).trans ((putS_of a _ 4).2 k hk))))⟩
  · rw [cI_f hp]; exact ⟨fun _ _ => rfl, fun _ _ => rfl⟩
theorem K_feed {a b c e f : Int32} (hc : Cnt σ) (hS : Sb σ) : Cnt (nFeed σ a b c e f) ∧ Sb (nFeed σ a b c e f) := by
  obtain ⟨f1, f2⟩ := fed_of σ a b c e f
  have hrest : (SbL (nFeed σ a b c e f) ∧ SbR (nFeed σ a b c e f)) ∧ PerOK (nFeed σ a b c e f) ∧ MkI (nFeed σ a b c e f) ∧ QuB (nFeed σ a b c e f) ∧ PpB (nFeed σ a b c e f) ∧ HoB (nFeed σ a b c e f) := kp_use (P := fun σ => (SbL σ ∧ SbR σ) ∧ PerOK σ ∧ MkI σ ∧ QuB σ ∧ PpB σ ∧ HoB σ) [1, 15, 16, 25, 49, 60, 65] [2, 3, 4, 8, 9, 10, 11, 13, 14, 19, 20, 21, 45, 46, 48, 50, 56, 62] (fun _ => rfl) (fun k hk => f1 k ((by decide : ∀ k ∈ [1, 15, 16, 25, 49, 60, 65], k ≠ 24) k hk)) (fun k hk => f2 k ((by decide : ∀ k ∈ [2, 3, 4, 8, 9, 10, 11, 13, 14, 19, 20, 21, 45, 46, 48, 50, 56, 62], k ≠ 18) k hk)) ⟨⟨hS.1, hS.2.1⟩, hS.2.2.1, hS.2.2.2.1, hS.2.2.2.2.2.1, hS.2.2.2.2.2.2.1, hS.2.2.2.2.2.2.2⟩
  have hby : BytOK (nFeed σ a b c e f) := by
    unfold nFeed
    by_cases hp : fedTo σ a b c e f ≤ 160
    · rw [cI_t hp]; exact byt_put f _ (byt_put e _ (byt_put c _ (byt_put b _ (byt_put a _ hS.2.2.2.2.1 4) 4) 4) 4) 4
    · rw [cI_f hp]; exact hS.2.2.2.2.1
  refine ⟨?_, hrest.1.1, hrest.1.2, hrest.2.1, hrest.2.2.1, hby, hrest.2.2.2⟩
  obtain ⟨e1, e2⟩ := hc.b 24 (b := 160) (by decide)
  unfold nFeed at f1 ⊢
  by_cases hp : fedTo σ a b c e f ≤ 160
  · rw [cI_t hp] at f1 ⊢
    have hn := fedTo_n e1 a b c e f
    rw [hn] at hp
    have k1 := nB_le a 4
    have k2 := nB_le b 4
    have k3 := nB_le c 4
    have k4 := nB_le e 4
    have k5 := nB_le f 4
    have hle := le_nI (by omega) (by decide) (b := 160) hp
    have hv := putS_len f _ (putS_len e _ (putS_len c _ (putS_len b _ (putS_len a σ e1 4) 4) 4) 4) 4
    refine Cnt_up (m := cn σ 24 + nB a 4 + nB b 4 + nB c 4 + nB e 4 + nB f 4) hc f1 hv (fun q hq z => ?_) (by omega)
    have u : ∀ q ∈ mBnd, q.1 = 24 → q.2 = 160 := by decide
    rw [u q hq z]; exact hle
  · rw [cI_f hp]; exact hc
end KRU
