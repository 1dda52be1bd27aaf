/-! the class, 36: rule, fault -/
theorem Dyn_addG {G : Gam} {τ : Nat → Nat} {ω : Nat → Nat → Nat} {ε : Nat → Nat} {σ σ' κ : MS} {Md M' : Mem} {k n v : Nat} {fv : Nat → Value} (hi : adOK τ) (hD : Dyn G τ ω ε σ Md) (hk : isLi k) (hn : n = cn σ (cK k)) (hv : Md v = none) (hvs : ∀ q ∈ kArr, v ≠ τ q.1) (hA : AddR (cm τ κ (mset Md v ((oK k).1, (oK k).2, fv))) M' (τ k) (ε k) n v (ω k)) (hge : ∀ a c, M' a = some c → G.2.1.heap.size ≤ a)
    (s1 : cn σ' (cK k) = n + 1) (s2 : ∀ j, isLi j → j ≠ k → cn σ' (cK j) = cn σ (cK j)) (s3 : ∀ (ω : Nat → Nat → Nat) j i, isLi j → i < cn σ (cK j) → oV ω σ' j i = oV ω σ j i) (hCo2 : ∀ r, r < cn σ' 25 → Md (ω 8 r) = some (100, (codS σ' r).length, fun j => .int ((codS σ' r).getD j 0))) (s5 : ∀ j, j < (oK k).2 → fv j = oV ω σ' k n j) (s6 : LinP σ') :
    ∃ Md' ω' ε', (∀ b c', cm τ κ Md' b = some c' → ∃ f, M' b = some (c'.1, c'.2.1, f) ∧ ∀ j, j < c'.2.1 → f j = c'.2.2 j) ∧ Dyn G τ ω' ε' σ' Md' := by
  obtain ⟨m', e', N', g', fl, a1, a2, a3, a4, a5, a6, a7, a8, a9, a10⟩ := hA
  obtain ⟨hAp, hLs, hOb, hDi, hCo, hLP⟩ := hD
  have hMl : ∀ j, isLi j → ∃ c, Md (τ j) = some (0, 3, c) := fun j hj => by
    obtain ⟨m, N, g, h1, -⟩ := hLs j hj
    exact ⟨_, h1⟩
  have hrow : ∀ j, isLi j → (∃ N g, Md (ε j) = some (106, N, g)) ∨ (OldE G (ε j) ∧ Md (ε j) = none) := fun j hj => by
    obtain ⟨m, N, g, -, h | h⟩ := hLs j hj
    · exact Or.inr h.2
    · exact Or.inl ⟨N, g, h.1⟩
  have hst : ∀ a c, Md a = some c → ∀ q ∈ kArr, a ≠ τ q.1 := fun a c h q hq z => by
    have := hAp q hq; rw [← z, h] at this; cases this
  have hvl : ∀ j, isLi j → v ≠ τ j := fun j hj z => by
    obtain ⟨c, h⟩ := hMl j hj
    rw [← z, hv] at h; cases h
  -- where the row lies now
  have hvM : cm τ κ (mset Md v ((oK k).1, (oK k).2, fv)) v = some ((oK k).1, (oK k).2, fv) := by rw [cm_out hvs]; exact mset_eq
  have hlow : ∀ a c, Md a = some c → cm τ κ (mset Md v ((oK k).1, (oK k).2, fv)) a = some c := fun a c h => by
    rw [cm_out (hst a c h), mset_ne (fun z => by rw [z, hv] at h; cases h)]; exact h
  have hse : ∀ q ∈ kArr, e' ≠ τ q.1 := by
    intro q hq z
    have hex : ∃ c, cm τ κ (mset Md v ((oK k).1, (oK k).2, fv)) (τ q.1) = some c := by
      have : ∀ q ∈ kArr, mFind kArr q.1 = some (q.2.1, q.2.2) := by decide
      exact ⟨_, kc hi (this q hq)⟩
    obtain ⟨c, hc⟩ := hex
    rcases a9 with ⟨b1, b2⟩ | b
    · rcases hrow k hk with ⟨N, g, h⟩ | ⟨h, h0⟩
      · exact hst _ _ h q hq (b1.symm.trans z)
      · have hqk : τ q.1 = τ q.1 := rfl
        have hge' := hge e' _ a3
        rw [b1] at hge'
        have := h.lt
        omega
    · rw [z, hc] at b; cases b
  have hle : τ k ≠ e' := fun z => by
    rw [z, a3] at a1
    have h0 : (106 : Nat) = 0 := congrArg (fun c : Cel => c.1) (Option.some.inj a1)
    omega
  have hve : v ≠ e' := fun z => by
    rcases a9 with ⟨b1, b2⟩ | b
    · rcases hrow k hk with ⟨N, g, h⟩ | ⟨h, h0⟩
      · rw [← b1, ← z, hv] at h; cases h
      · have hge' := hge e' _ a3
        rw [b1] at hge'
        have := h.lt
        omega
    · rw [← z, hvM] at b; cases b
  have hMv : M' v = some ((oK k).1, (oK k).2, fv) := by rw [a10 v (hvl k hk) hve]; exact hvM
  -- what stood elsewhere is not there
  have hob : ∀ a c, Md a = some c → c.1 ≠ 106 → a ≠ e' := fun a c h hc z => by
    rcases a9 with ⟨b1, b2⟩ | b
    · rcases hrow k hk with ⟨N, g, h'⟩ | ⟨h', h0⟩
      · rw [← b1, ← z, h] at h'
        exact hc (congrArg (fun c : Cel => c.1) (Option.some.inj h'))
      · rw [← b1, ← z, h] at h0; cases h0
    · rw [← z, hlow a c h] at b; cases b
  have hF : ∀ j, isLi j → j ≠ k → ε j ≠ e' := fun j hj hjk z => by
    rcases hrow j hj with ⟨N, g, h⟩ | ⟨h, h0⟩
    · rcases a9 with ⟨b1, b2⟩ | b
      · exact hDi j k hj hk hjk (by rw [h]; exact fun y => by cases y) (z.trans b1)
      · rw [← z, hlow _ _ h] at b; cases b
    · have := h.lt
      have hge' := hge e' _ a3
      omega
  have hel : ∀ j, isLi j → ε j ≠ τ k := fun j hj z => by
    obtain ⟨c, h⟩ := hMl k hk
    rcases hrow j hj with ⟨N, g, h'⟩ | ⟨h', h0⟩
    · rw [z, h] at h'
      have h0 : (0 : Nat) = 106 := congrArg (fun c : Cel => c.1) (Option.some.inj h')
      omega
    · rw [z, h] at h0; cases h0
  have hev : ∀ j, isLi j → ε j ≠ v := fun j hj z => by
    rcases hrow j hj with ⟨N, g, h'⟩ | ⟨h', h0⟩
    · rw [z, hv] at h'; cases h'
    · have := h'.lt
      have hge' := hge v _ hMv
      omega
  have hpres : ∀ a c, Md a = some c → c.1 ≠ 0 → c.1 ≠ 106 → a ≠ τ k ∧ a ≠ e' ∧ a ≠ v := fun a c h h0 h1 => by
    refine ⟨fun z => ?_, hob a c h h1, fun z => by rw [z, hv] at h; cases h⟩
    obtain ⟨c2, h2⟩ := hMl k hk
    rw [z, h2] at h
    exact h0 (congrArg (fun c : Cel => c.1) (Option.some.inj h)).symm
  let ω' : Nat → Nat → Nat := fun j i => if j = k ∧ i = n then v else ω j i
  let ε' : Nat → Nat := fun j => if j = k then e' else ε j
  let Md' : Mem := mset (mset (mset Md v ((oK k).1, (oK k).2, oV ω σ' k n)) e' (106, N', g')) (τ k) (0, 3, fL m' e' (nI (n + 1)))
  have hk8 : ¬ 8 = k := fun z => by have := hk.2; omega
  have w8 : ∀ i, ω' 8 i = ω 8 i := fun i => if_neg (fun z => hk8 z.1)
  have q1 : Md' (τ k) = some (0, 3, fL m' e' (nI (n + 1))) := mset_eq
  have q2 : Md' e' = some (106, N', g') := by
    show mset _ _ _ _ = _
    rw [mset_ne (Ne.symm hle)]; exact mset_eq
  have q3 : Md' v = some ((oK k).1, (oK k).2, oV ω σ' k n) := by
    show mset _ _ _ _ = _
    rw [mset_ne (hvl k hk), mset_ne hve]; exact mset_eq
  have q4 : ∀ a, a ≠ τ k → a ≠ e' → a ≠ v → Md' a = Md a := fun a x y z => by
    show mset _ _ _ _ = _
    rw [mset_ne x, mset_ne y, mset_ne z]
  refine ⟨Md', ω', ε', fun b c' hb => ?_, ?_⟩
  · by_cases hs : ∃ q ∈ kArr, b = τ q.1
    · obtain ⟨q, hq, hz⟩ := id hs
      have h1 : b ≠ τ k := fun y => kArr_li q hq (by
        have h100 : q.1 < 100 := kArr_lt q hq
        have := hi q.1 k h100 (by have := hk.2; omega) (hz.symm.trans y)
        rw [this]; exact hk)
      have h2 : b ≠ e' := fun y => hse q hq (y.symm.trans hz)
      refine ⟨c'.2.2, ?_, fun _ _ => rfl⟩
      rw [a10 b h1 h2]
      exact (cmA_in kArr hs).trans hb
    · have hs' : ∀ q ∈ kArr, b ≠ τ q.1 := fun q hq z => hs ⟨q, hq, z⟩
      rw [cm_out hs'] at hb
      by_cases e1 : b = τ k
      · subst e1
        rw [q1] at hb
        cases hb
        exact ⟨fl, a1, a2⟩
      · by_cases e2 : b = e'
        · rw [e2, q2] at hb
          cases hb
          rw [e2]
          exact ⟨g', a3, fun _ _ => rfl⟩
        · by_cases e3 : b = v
          · rw [e3, q3] at hb
            cases hb
            rw [e3]
            exact ⟨fv, hMv, s5⟩
          · rw [q4 b e1 e2 e3] at hb
            refine ⟨c'.2.2, ?_, fun _ _ => rfl⟩
            rw [a10 b e1 e2]
            exact hlow b c' hb
  · refine ⟨fun q hq => ?_, fun j hj => ?_, fun j i hj hij => ?_, fun j j' hj hj' hne hns => ?_, fun r hr => ?_, s6⟩
    · have h1 : τ q.1 ≠ τ k := fun y => kArr_li q hq (by
        have h100 : q.1 < 100 := kArr_lt q hq
        have := hi q.1 k h100 (by have := hk.2; omega) y
        rw [this]; exact hk)
      rw [q4 _ h1 (Ne.symm (hse q hq)) (Ne.symm (hvs q hq))]
      exact hAp q hq
    · by_cases ejk : j = k
      · subst ejk
        refine ⟨m', N', g', ?_, Or.inr ⟨?_, ?_, a5, a6, fun i hi2 => ?_⟩⟩
        · show Md' (τ j) = some (0, 3, fL m' (if j = j then e' else ε j) (nI (cn σ' (cK j))))
          rw [if_pos rfl, s1]; exact q1
        · show Md' (if j = j then e' else ε j) = _
          rw [if_pos rfl]; exact q2
        · rw [s1]; exact a4
        · rw [s1] at hi2
          show g' i = .ref (if j = j ∧ i = n then v else ω j i)
          by_cases e : i = n
          · rw [if_pos ⟨rfl, e⟩, e]; exact a8
          · rw [if_neg (fun z => e z.2)]; exact a7 i (by omega)
      · have hwj : ω' j = ω j := funext (fun i => if_neg (fun z => ejk z.1))
        have hej : ε' j = ε j := if_neg ejk
        obtain ⟨m, N, g, h1, h2⟩ := hLs j hj
        have hτ : τ j ≠ τ k := fun y => ejk (hi j k (by have := hj.2; omega) (by have := hk.2; omega) y)
        rw [hwj, hej, s2 j hj ejk]
        refine ⟨m, N, g, ?_, ?_⟩
        · rw [q4 _ hτ (hob _ _ h1 (show (0 : Nat) ≠ 106 by decide)) (Ne.symm (hvl j hj))]; exact h1
        · rw [q4 _ (hel j hj) (hF j hj ejk) (hev j hj)]; exact h2
    · by_cases e : j = k ∧ i = n
      · obtain ⟨e1, e2⟩ := e
        subst e1
        subst e2
        show Md' (if j = j ∧ i = i then v else ω j i) = _
        have hw1 : j = 2 → ω' 1 (pw σ' i) = ω 1 (pw σ' i) := fun z => if_neg (fun y => by have := y.1; omega)
        rw [if_pos ⟨rfl, rfl⟩, oV_w w8 hw1]; exact q3
      · have hlt : i < cn σ (cK j) := by
          by_cases ejk : j = k
          · subst ejk
            rw [s1] at hij
            have : ¬ i = n := fun z => e ⟨rfl, z⟩
            omega
          · rw [s2 j hj ejk] at hij; exact hij
        have hw : ω' j i = ω j i := if_neg e
        have h1 := hOb j i hj hlt
        obtain ⟨p1, p2, p3⟩ := hpres _ _ h1 (oK_lt j hj).2 (by have := (oK_lt j hj).1; show (oK j).1 ≠ 106; omega)
        have hwr : j = 2 → ω' 1 (pw σ i) = ω 1 (pw σ i) := fun z => if_neg (fun y => by
          subst z
          have h3 : pw σ i < cn σ 15 := pw_lt hLP hlt
          have h4 : n = cn σ 15 := hn.trans (by rw [← y.1]; rfl)
          have := y.2
          omega)
        rw [hw, s3 ω' j i hj hlt, oV_w w8 hwr, q4 _ p1 p2 p3]; exact h1
    · show (if j = k then e' else ε j) ≠ (if j' = k then e' else ε j')
      by_cases e1 : j = k
      · rw [if_pos e1, if_neg (fun z => hne (e1.trans z.symm))]
        exact Ne.symm (hF j' hj' (fun z => hne (e1.trans z.symm)))
      · rw [if_neg e1]
        by_cases e2 : j' = k
        · rw [if_pos e2]; exact hF j hj e1
        · rw [if_neg e2]
          refine hDi j j' hj hj' hne ?_
          have hej : ε' j = ε j := if_neg e1
          rw [hej, q4 _ (hel j hj) (hF j hj e1) (hev j hj)] at hns
          exact hns
    · have h1 := hCo2 r hr
      obtain ⟨p1, p2, p3⟩ := hpres _ _ h1 (by show (100 : Nat) ≠ 0; decide) (by show (100 : Nat) ≠ 106; decide)
      rw [w8, q4 _ p1 p2 p3]; exact h1
section NEWG
variable {G : Gam} {d : Nat} {τ : Nat → Nat} {ω : Nat → Nat → Nat} {ε : Nat → Nat} {σ κ : MS} {Md : Mem} {M : Mem} {Q : Option Value → Mem → Prop} {k : Nat}
theorem c_lst_addG {v mi : Nat} {q : vw_C} {fv : Nat → Value} (σ' : MS) (hi : adOK τ) (hD : Dyn G τ ω ε σ Md) (hk : isLi k) (hZ : ZMir G mi) (hv0 : cm τ κ Md v = none) (hcl : vwCl[(oK k).1]? = some q) (hca : Cond.castable q.1 "java/lang/Object" ∈ lw_tbl) (hn : cn σ (cK k) ≤ 266)
    (s1 : cn σ' (cK k) = cn σ (cK k) + 1) (s2 : ∀ j, isLi j → j ≠ k → cn σ' (cK j) = cn σ (cK j)) (s3 : ∀ (ω : Nat → Nat → Nat) j i, isLi j → i < cn σ (cK j) → oV ω σ' j i = oV ω σ j i) (hCo2 : ∀ r, r < cn σ' 25 → Md (ω 8 r) = some (100, (codS σ' r).length, fun j => .int ((codS σ' r).getD j 0))) (s5 : ∀ j, j < (oK k).2 → fv j = oV ω σ' k (cn σ (cK k)) j) (s6 : LinP σ')
    (hq : ∀ Md' ω' ε', Dyn G τ ω' ε' σ' Md' → Q (some (.int 1)) (cm τ κ Md')) : CT G (d + 6) (1, 400) MJx4a65c_add_9ea2d [.ref (τ k), .ref v] (mset (cm τ κ Md) v ((oK k).1, (oK k).2, fv)) Q := by
  obtain ⟨hvs, hv⟩ := fresh_st hi hv0
  have hD0 := hD
  obtain ⟨hAp, hLs, hOb, hDi, hCo, -⟩ := hD
  obtain ⟨m, N, g, h1, h2⟩ := hLs k hk
  have hvl : v ≠ τ k := fun z => by rw [← z, hv] at h1; cases h1
  rw [cm_md hvs]
  have hlow : ∀ a c, Md a = some c → cm τ κ (mset Md v ((oK k).1, (oK k).2, fv)) a = some c := fun a c h => by
    have hst : ∀ q ∈ kArr, a ≠ τ q.1 := fun q hq z => by
      have := hAp q hq; rw [← z, h] at this; cases this
    rw [cm_out hst, mset_ne (fun z => by rw [z, hv] at h; cases h)]; exact h
  have hvM : cm τ κ (mset Md v ((oK k).1, (oK k).2, fv)) v = some ((oK k).1, (oK k).2, fv) := by rw [cm_out hvs]; exact mset_eq
  have hobj : ∀ i, i < cn σ (cK k) → ∃ sz fv', cm τ κ (mset Md v ((oK k).1, (oK k).2, fv)) (ω k i) = some ((oK k).1, sz, fv') := fun i hi => ⟨_, _, hlow _ _ (hOb k i hk hi)⟩
  have hwl : ∀ i, i < cn σ (cK k) → ω k i ≠ τ k := fun i hi z => by
    have h3 := hOb k i hk hi
    rw [z, h1] at h3
    exact (oK_lt k hk).2 (congrArg (fun c : Cel => c.1) (Option.some.inj h3)).symm
  have fin1 : ∀ M', AddR (cm τ κ (mset Md v ((oK k).1, (oK k).2, fv))) M' (τ k) (ε k) (cn σ (cK k)) v (ω k) → (∀ a c, M' a = some c → G.2.1.heap.size ≤ a) → ∃ M'', Ext M' M'' ∧ Q (some (.int 1)) M'' := fun M' hA hge => by
    obtain ⟨Md', ω', ε', e1, e2⟩ := Dyn_addG hi hD0 hk rfl hv hvs hA hge s1 s2 s3 hCo2 s5 s6
    exact ⟨_, e1, hq Md' ω' ε' e2⟩
  refine CT.ext (Q' := fun r M' => r = some (.int 1) ∧ AddR (cm τ κ (mset Md v ((oK k).1, (oK k).2, fv))) M' (τ k) (ε k) (cn σ (cK k)) v (ω k)) ?_ (fun r M' z hge => by
    obtain ⟨rfl, hA⟩ := z
    exact fin1 M' hA hge)
  rcases h2 with ⟨h3, h4, h5⟩ | ⟨h3, h4⟩
  · exact c_add (N := 0) hZ (hlow _ _ h1) ⟨hobj, Or.inl ⟨h3, rfl, h4⟩⟩ hn hcl hca hvM hvl hwl (fun M' hA => ⟨rfl, hA⟩)
  · exact c_add (N := N) hZ (hlow _ _ h1) ⟨hobj, Or.inr ⟨g, hlow _ _ h3, h4⟩⟩ hn hcl hca hvM hvl hwl (fun M' hA => ⟨rfl, hA⟩)
end NEWG

theorem oV_c8 {ω ω' : Nat → Nat → Nat} {σ : MS} {k i : Nat} (h : k = 4 → ω' 8 i = ω 8 i) (h1 : ∀ x, ω' 1 x = ω 1 x) : oV ω' σ k i = oV ω σ k i := by
  unfold oV
  simp only [h1]
  split <;> first | rfl | (funext f; rw [h rfl])
theorem Dyn_cod {G : Gam} {τ : Nat → Nat} {ω : Nat → Nat → Nat} {ε : Nat → Nat} {σ : MS} {Md : Mem} {h n : Nat} {X : Cel} (hD : Dyn G τ ω ε σ Md) (hn : n = cn σ 25) (hh : Md h = none) (hhs : ∀ q ∈ kArr, h ≠ τ q.1) (hge : G.2.1.heap.size ≤ h) : Dyn G τ (fun j i => if j = 8 ∧ i = n then h else ω j i) ε σ (mset Md h X) := by
  obtain ⟨hAp, hLs, hOb, hDi, hCo, hLP⟩ := hD
  have hne : ∀ a c, Md a = some c → a ≠ h := fun a c y z => by rw [z, hh] at y; cases y
  have hkeep : ∀ a c, Md a = some c → mset Md h X a = some c := fun a c y => by rw [mset_ne (hne a c y)]; exact y
  have hw : ∀ k, isLi k → (fun i => if k = 8 ∧ i = n then h else ω k i) = ω k := fun k hk => funext (fun i => if_neg (fun z => by have := hk.2; omega))
  refine ⟨fun q hq => ?_, fun k hk => ?_, fun k i hk hi => ?_, fun j k hj hk hjk hns => ?_, fun r hr => ?_, hLP⟩
  · rw [mset_ne (Ne.symm (hhs q hq))]; exact hAp q hq
  · show LstD G (mset Md h X) (τ k) (ε k) (cn σ (cK k)) (fun i => if k = 8 ∧ i = n then h else ω k i)
    rw [hw k hk]
    obtain ⟨m, N, g, h1, h2⟩ := hLs k hk
    refine ⟨m, N, g, hkeep _ _ h1, ?_⟩
    rcases h2 with ⟨g1, g2, g3⟩ | ⟨g1, g2⟩
    · exact Or.inl ⟨g1, g2, by rw [mset_ne (fun z => by have := g2.lt; omega)]; exact g3⟩
    · exact Or.inr ⟨hkeep _ _ g1, g2⟩
  · have h1 := hOb k i hk hi
    show mset Md h X (if k = 8 ∧ i = n then h else ω k i) = _
    rw [if_neg (fun z => by have := hk.2; omega), hkeep _ _ h1]
    refine congrArg (fun x => some ((oK k).1, (oK k).2, x)) (oV_c8 (fun hk4 => ?_) (fun x => if_neg (fun z => by have := z.1; omega))).symm
    subst hk4
    have hi2 : i < cn σ 25 := hi
    exact if_neg (fun z => by omega)
  · refine hDi j k hj hk hjk (fun z => ?_)
    by_cases e : ε j = h
    · obtain ⟨m, N, g, -, h2⟩ := hLs j hj
      rcases h2 with ⟨g1, g2, g3⟩ | ⟨g1, g2⟩
      · have := g2.lt; omega
      · rw [e, hh] at g1; cases g1
    · rw [mset_ne e] at hns; exact hns z
  · show mset Md h X (if 8 = 8 ∧ r = n then h else ω 8 r) = _
    rw [if_neg (fun z => by omega)]
    exact hkeep _ _ (hCo r hr)
/-- scratch of the reader -/
def KR (κ κ' : MS) : Prop := (∀ k, ¬ k = 82 → ¬ k = 84 → κ'.1 k = κ.1 k) ∧ ∀ r, ¬ r = 18 → κ'.2 r = κ.2 r
theorem KR_rS {κ : MS} {a m : Int32} {f : Nat → Int32} : KR κ (rS κ a m f) := by
  refine ⟨fun k x y => ?_, fun r x => ?_⟩
  · show (bif Nat.beq k 82 then _ else (bif Nat.beq k 84 then _ else _)) = _
    rw [beq_f x, beq_f y]; rfl
  · show (bif Nat.beq r 18 then _ else _) = _
    rw [beq_f x]; rfl
theorem Kap_KR {σ κ κ' : MS} (h : KR κ κ') (hK : Kap σ κ) : Kap σ κ' := by
  obtain ⟨h1, h2, h3, ⟨t1, t2, t3, t4⟩, h5⟩ := hK
  unfold Kap TabK
  rw [h.1 0 (by decide) (by decide), h.1 81 (by decide) (by decide), h.1 92 (by decide) (by decide), h.1 95 (by decide) (by decide), h.2 17 (by decide), h.2 20 (by decide), h.2 21 (by decide), h.2 22 (by decide), h.2 23 (by decide)]
  exact ⟨h1, h2, h3, ⟨t1, t2, t3, t4⟩, fun p s hp hs => by rw [h.2 (30 + p) (by omega)]; exact h5 p s hp hs⟩
section RUL
variable {G : Gam} {d : Nat} {τ : Nat → Nat} {ω : Nat → Nat → Nat} {ε : Nat → Nat} {σ κ : MS} {Md : Mem} {M : Mem} {Q : Option Value → Mem → Prop} {k : Nat}
theorem c_X11_fault (hW : Wld G τ ω ε σ κ Md) (hl : TLit G) (hB : BytOK σ) (hq : ∀ κ', KR κ κ' → Q (some (.int (aFau (σ.2 18) (cn σ 24)))) (cm τ κ' Md)) : CT G (d + 65) (0, 0) MX11_fault [.ref (τ 0)] (cm τ κ Md) Q := by
  obtain ⟨hi, hc, hD, hK⟩ := hW
  have hT := TpB_of hc ⟨hK.2.1, hK.2.2.1⟩ hB
  refine CT.of rfl (Nat.le_of_ble_eq_true rfl) ?_
  refine x_aload_n dX11_fault_0 rfl rfl ?_
  refine x_getf dX11_fault_1 lf_X11_37 (kc hi kf_0) kv_0_8 ?_
  refine x_cV0 dX11_fault_4 lv_X11_185 (kc hi kf_8) rfl rfl rfl  (c_X9_read (d := d) hi hl hT ?_)
  refine ⟨fun q cs hok a f' hc => ?_, fun x' herr a m f' hm => ?_⟩
  · have h := hq _ (KR_rS (a := a) (m := nI cs.length) (f := f'))
    rw [aFau_ok hok] at h
    exact x_ireturn dX11_fault_7 rfl rfl (h)
  · have h := hq _ (KR_rS (a := a) (m := nI m) (f := f'))
    rw [aFau_er herr] at h
    exact x_ireturn dX11_fault_7 rfl rfl (h)
theorem c_X6_init {v c : Nat} {f : Nat → Value} {a b : Int32} (hM : M v = some (7, 3, f)) (hq : ∀ f' : Nat → Value, f' 0 = .int a → f' 1 = .int b → f' 2 = .ref c → Q none (mset M v (7, 3, f'))) : CT G (d + 1) (0, 0) MX6_init [.ref v, .int a, .int b, .ref c] M Q := by
  refine CT.of rfl (Nat.le_of_ble_eq_true rfl) ?_
  refine x_aload_n dX6_init_0 rfl rfl ?_
  refine x_objInit dX6_init_1 tb639 (Nat.le_of_ble_eq_true rfl) ?_
  refine x_aload_n dX6_init_4 rfl rfl ?_
  refine x_iload_n dX6_init_5 rfl rfl ?_
  refine x_putF dX6_init_6 lp_X6_9 rfl hM rfl rfl ?_
  refine x_aload_n dX6_init_9 rfl rfl ?_
  refine x_iload_n dX6_init_10 rfl rfl ?_
  refine x_putF dX6_init_11 lp_X6_15 rfl mset_eq rfl rfl ?_
  refine x_aload_n dX6_init_14 rfl rfl ?_
  refine x_aload_n dX6_init_15 rfl rfl ?_
  refine x_putF dX6_init_16 lp_X6_18 rfl mset_eq rfl rfl ?_
  exact x_return dX6_init_19 rfl ((by rw [mset_mset, mset_mset]; exact hq _ rfl rfl rfl))
theorem oRule_1 {fr : Int32} {k : Nat} (h1 : ¬ k = 24) (h2 : ¬ k = 25) : (oRule σ fr).1 k = σ.1 k := by
  show updB (updB (cpyT σ (cn σ 24)).1 25 _) 24 0 k = _
  rw [updB_ne h1, updB_ne h2, cpyT_1]
theorem oRule_2 {fr : Int32} {r : Nat} (h1 : ¬ r = 19) (h2 : ¬ r = 20) (h3 : ¬ r = 21) (h4 : ¬ r = 22) : (oRule σ fr).2 r = σ.2 r := by
  show (seta (seta (seta (cpyT σ (cn σ 24)) 20 (cn σ 25) (σ.1 24)) 21 (cn σ 25) fr) 22 (cn σ 25) (σ.1 1)).2 r = _
  rw [seta_ne h4, seta_ne h3, seta_ne h2, cpyT_k σ h1]
theorem oRule_19 {fr : Int32} {i : Nat} : (oRule σ fr).2 19 i = if 160 * cn σ 25 ≤ i ∧ i < 160 * cn σ 25 + cn σ 24 then σ.2 18 (i - 160 * cn σ 25) else σ.2 19 i := by
  have e : (oRule σ fr).2 19 = (cpyT σ (cn σ 24)).2 19 := by
    show (seta (seta (seta (cpyT σ (cn σ 24)) 20 (cn σ 25) (σ.1 24)) 21 (cn σ 25) fr) 22 (cn σ 25) (σ.1 1)).2 19 = _
    rw [seta_ne (by decide), seta_ne (by decide), seta_ne (by decide)]
  rw [e, cpyT_19]
theorem oRule_20 {fr : Int32} : (oRule σ fr).2 20 = updB (σ.2 20) (cn σ 25) (σ.1 24) := by
  show (seta (seta (seta (cpyT σ (cn σ 24)) 20 (cn σ 25) (σ.1 24)) 21 (cn σ 25) fr) 22 (cn σ 25) (σ.1 1)).2 20 = _
  rw [seta_ne (by decide), seta_ne (by decide), seta_eq, cpyT_k σ (by decide)]
theorem oRule_21 {fr : Int32} : (oRule σ fr).2 21 = updB (σ.2 21) (cn σ 25) fr := by
  show (seta (seta (seta (cpyT σ (cn σ 24)) 20 (cn σ 25) (σ.1 24)) 21 (cn σ 25) fr) 22 (cn σ 25) (σ.1 1)).2 21 = _
  rw [seta_ne (by decide), seta_eq, seta_ne (by decide), cpyT_k σ (by decide)]
theorem oRule_22 {fr : Int32} : (oRule σ fr).2 22 = updB (σ.2 22) (cn σ 25) (σ.1 1) := by
  show (seta (seta (seta (cpyT σ (cn σ 24)) 20 (cn σ 25) (σ.1 24)) 21 (cn σ 25) fr) 22 (cn σ 25) (σ.1 1)).2 22 = _
  rw [seta_eq, seta_ne (by decide), seta_ne (by decide), cpyT_k σ (by decide)]
theorem codS_new {fr : Int32} {q : Nat} {cs : List Int32} (hc : Cnt σ) (hok : pRule (σ.2 18) (cn σ 24) = .ok (q, cs)) : codS (oRule σ fr) (cn σ 25) = cs := by
  obtain ⟨e1, e2⟩ := hc.b 24 (b := 160) (by decide)
  have h20 : ((oRule σ fr).2 20 (cn σ 25)).toNatClampNeg = cn σ 24 := by rw [oRule_20, updB_eq]; rfl
  have hx : pRule (fun i => (oRule σ fr).2 19 (160 * cn σ 25 + i)) (cn σ 24) = pRule (σ.2 18) (cn σ 24) := pRule_x (fun p hp => by
    show (oRule σ fr).2 19 (160 * cn σ 25 + p) = _
    rw [oRule_19, if_pos (by omega), show 160 * cn σ 25 + p - 160 * cn σ 25 = p by omega])
  unfold codS
  rw [h20, hx, hok]
theorem codS_old {fr : Int32} {r : Nat} (hr : r < cn σ 25) (hl : (σ.2 20 r).toNatClampNeg ≤ 160) : codS (oRule σ fr) r = codS σ r := by
  have h20 : (oRule σ fr).2 20 r = σ.2 20 r := by rw [oRule_20, updB_ne (by omega)]
  have hx : pRule (fun i => (oRule σ fr).2 19 (160 * r + i)) (σ.2 20 r).toNatClampNeg = pRule (fun i => σ.2 19 (160 * r + i)) (σ.2 20 r).toNatClampNeg := pRule_x (fun p hp => by
    show (oRule σ fr).2 19 (160 * r + p) = σ.2 19 (160 * r + p)
    rw [oRule_19, if_neg (by omega)])
  unfold codS
  rw [h20, hx]
theorem oV_or {fr : Int32} {j i : Nat} (hj : isLi j) (hi : i < cn σ (cK j)) : oV ω (oRule σ fr) j i = oV ω σ j i := by
  have h9 : j = 1 ∨ j = 2 ∨ j = 3 ∨ j = 4 ∨ j = 5 ∨ j = 6 ∨ j = 7 := by have := hj.1; have := hj.2; omega
  have hr2 : ∀ r, ¬ r = 19 → ¬ r = 20 → ¬ r = 21 → ¬ r = 22 → (oRule σ fr).2 r i = σ.2 r i := fun r a b c e => congrFun (oRule_2 a b c e) i
  have e2 := hr2 2 (by decide) (by decide) (by decide) (by decide)
  have e3 := hr2 3 (by decide) (by decide) (by decide) (by decide)
  have e4 := hr2 4 (by decide) (by decide) (by decide) (by decide)
  have e5 := hr2 5 (by decide) (by decide) (by decide) (by decide)
  have e6 := hr2 6 (by decide) (by decide) (by decide) (by decide)
  have e7 := hr2 7 (by decide) (by decide) (by decide) (by decide)
  have e8 := hr2 8 (by decide) (by decide) (by decide) (by decide)
  have e9 := hr2 9 (by decide) (by decide) (by decide) (by decide)
  have e10 := hr2 10 (by decide) (by decide) (by decide) (by decide)
  have e11 := hr2 11 (by decide) (by decide) (by decide) (by decide)
  have e12 := hr2 12 (by decide) (by decide) (by decide) (by decide)
  have e13 := hr2 13 (by decide) (by decide) (by decide) (by decide)
  have e14 := hr2 14 (by decide) (by decide) (by decide) (by decide)
  have e38 := hr2 38 (by decide) (by decide) (by decide) (by decide)
  have e39 := hr2 39 (by decide) (by decide) (by decide) (by decide)
  have e40 := hr2 40 (by decide) (by decide) (by decide) (by decide)
  have e41 := hr2 41 (by decide) (by decide) (by decide) (by decide)
  have e42 := hr2 42 (by decide) (by decide) (by decide) (by decide)
  have e45 := hr2 45 (by decide) (by decide) (by decide) (by decide)
  have e46 := hr2 46 (by decide) (by decide) (by decide) (by decide)
  have e47 := hr2 47 (by decide) (by decide) (by decide) (by decide)
  have e48 := hr2 48 (by decide) (by decide) (by decide) (by decide)
  have e62 := hr2 62 (by decide) (by decide) (by decide) (by decide)
  have e63 := hr2 63 (by decide) (by decide) (by decide) (by decide)
  by_cases h4 : j = 4
  · subst h4
    have hi2 : i < cn σ 25 := hi
    have e21 : (oRule σ fr).2 21 i = σ.2 21 i := by rw [oRule_21, updB_ne (by omega)]
    have e22 : (oRule σ fr).2 22 i = σ.2 22 i := by rw [oRule_22, updB_ne (by omega)]
    unfold oV
    simp only [e21, e22]
  · rcases h9 with rfl | rfl | rfl | rfl | rfl | rfl | rfl
    · unfold oV; simp only [e2, e3, e4]
    · unfold oV; simp only [e8, e9, e10, e11, e12, e13, e14]
    · unfold oV; simp only [e5, e6, e7]
    · exact absurd rfl h4
    · unfold oV; simp only [e38, e39, e40, e41, e42]
    · unfold oV; simp only [e45, e46, e47, e48]
    · unfold oV; simp only [e62, e63]
theorem mset_re {κ : MS} {Md : Mem} {v h : Nat} {c0 X Z : Cel} (h1 : ∀ q ∈ kArr, v ≠ τ q.1) (h2 : ∀ q ∈ kArr, h ≠ τ q.1) (hne : v ≠ h) : mset (mset (cm τ κ (mset Md v c0)) h X) v Z = mset (cm τ κ (mset Md h X)) v Z := by
  rw [← cm_md h1, ← cm_md h2]
  funext b
  by_cases e : b = v
  · rw [e, mset_eq, mset_eq]
  · rw [mset_ne e, mset_ne e]
    by_cases e2 : b = h
    · rw [e2, mset_eq, mset_eq]
    · rw [mset_ne e2, mset_ne e2, mset_ne e]
def KRF (κ κ' : MS) : Prop := (∀ k, ¬ k = 81 → ¬ k = 82 → ¬ k = 84 → κ'.1 k = κ.1 k) ∧ ∀ r, ¬ r = 17 → ¬ r = 18 → κ'.2 r = κ.2 r
theorem KRF.r {κ κ' : MS} (h : KR κ κ') : KRF κ κ' := ⟨fun k _ x y => h.1 k x y, fun r _ x => h.2 r x⟩
theorem KRF.f {a b c : MS} (h1 : KR a b) (h2 : KF b c) : KRF a c := ⟨fun k x y z => (h2.1 k x).trans (h1.1 k y z), fun r x y => (h2.2 r x).trans (h1.2 r y)⟩
theorem Tp_KR {σ κ κ' : MS} (h : KR κ κ') (hT : Tp σ κ) : Tp σ κ' := ⟨(h.1 81 (by decide) (by decide)).trans hT.1, fun i hi => (congrFun (h.2 17 (by decide)) i).trans (hT.2 i hi)⟩
theorem c_X11_rule {fr : Int32} {mi : Nat} (hW : Wld G τ ω ε σ κ Md) (hl : TLit G) (hB : BytOK σ) (hZ : ZMir G mi) (hR : ∀ r, r < cn σ 25 → (σ.2 20 r).toNatClampNeg ≤ 160) (hq : ∀ κ' Md' ω' ε', KRF κ κ' → Tp (nRule σ fr) κ' → Dyn G τ ω' ε' (nRule σ fr) Md' → Q (some (.int (aRule σ fr))) (cm τ κ' Md')) : CT G (d + 65) (3, 810) MX11_rule [.ref (τ 0), .int fr] (cm τ κ Md) Q := by
  have hW0 := hW
  obtain ⟨hi, hc, hD, hK⟩ := hW
  obtain ⟨e1, e2⟩ := hc.b 25 (b := 20) (by decide)
  have hTp : Tp σ κ := ⟨hK.2.1, hK.2.2.1⟩
  have hT := TpB_of hc hTp hB
  have hno : ∀ κ', KR κ κ' → ¬ pRuleT σ fr → Q (some (.int (-1))) (cm τ κ' Md) := fun κ' hk zz => by
    have h := hq κ' Md ω ε (KRF.r hk)
    rw [show nRule σ fr = σ from cI_f zz, show aRule σ fr = -1 from cI_f zz] at h
    exact h (Tp_KR hk hTp) hD
  have hrf : KR κ κ := ⟨fun _ _ _ => rfl, fun _ _ => rfl⟩
  have hfull : σ.1 25 ≠ 20 ↔ nI (cn σ 25) < 20 := full_iff (N := 20) e1 e2 (by decide)
  refine CT.of rfl (Nat.le_of_ble_eq_true rfl) ?_
  refine x_iload_n dX11_rule_0 rfl rfl ?_
  refine x_cS1 dX11_rule_1 ls_X11_150 rfl  (c_X11_isDay ?_)
  refine x_if_eq_b (tgt := 30) dX11_rule_4 (by decide) (fun h4 => ?_) (fun h4 => ?_)
  · refine x_iconst (v := -1) dX11_rule_30 (by decide) ?_
    exact x_ireturn dX11_rule_31 rfl rfl ((by
first
| exact hno κ hrf (fun z => h4 z.2.2)
| exact hno κ hrf (fun z => absurd (hfull.mp z.2.1) (Int32.not_lt.mpr h16))))
  · refine x_aload_n dX11_rule_7 rfl rfl ?_
    refine x_getf dX11_rule_8 lf_X11_22 (kc hi kf_0) kv_0_4 ?_
    refine x_cV0 dX11_rule_11 lv_X11_100 (hD.lc 4 li_4) rfl rfl rfl (c_lsz_4 hD ?_)
    refine x_bipush (v := 20) dX11_rule_14 (by decide) ?_
    refine x_icmp_ge (tgt := 30) dX11_rule_16 (by decide) (fun h16 => ?_) (fun h16 => ?_)
    · refine x_iconst (v := -1) dX11_rule_30 (by decide) ?_
      exact x_ireturn dX11_rule_31 rfl rfl ((by
first
| exact hno κ hrf (fun z => h4 z.2.2)
| exact hno κ hrf (fun z => absurd (hfull.mp z.2.1) (Int32.not_lt.mpr h16))))
    · refine x_aload_n dX11_rule_19 rfl rfl ?_
      refine x_getf dX11_rule_20 lf_X11_37 (kc hi kf_0) kv_0_8 ?_
      refine x_cV0 dX11_rule_23 lv_X11_185 (kc hi kf_8) rfl rfl rfl  (c_X9_read (d := d) hi hl hT ?_)
      refine ⟨fun q cs hok a f' hcd => ?_, fun x' herr a m f' hm => ?_⟩
      · have hk1 := KR_rS (κ := κ) (a := a) (m := nI cs.length) (f := f')
        have hg := (Gc_rule (b := σ.2 18) (n := cn σ 24) (lb := 0) L0_bd).1 q cs hok
        have h24 := (hc.b 24 (b := 160) (by decide)).2
        have hp : pRuleT σ fr := ⟨aFau_ok hok, hfull.mpr (Int32.not_le.mp h16), h4⟩
        have hn1 : cn (oRule σ fr) 25 = cn σ 25 + 1 := by
          show ((oRule σ fr).1 25).toNatClampNeg = _
          have : (oRule σ fr).1 25 = σ.1 25 + 1 := by
            show updB (updB (cpyT σ (cn σ 24)).1 25 (σ.1 25 + 1)) 24 0 25 = _
            rw [updB_ne (by decide), updB_eq]
          rw [this, e1, nI_1, nI_clamp (by omega)]
        refine x_iconst (v := -1) dX11_rule_26 (by decide) ?_
        refine x_icmp_eq (tgt := 32) dX11_rule_27 (by decide) (fun _ => ?_) (fun z => absurd rfl z)
        refine x_aload_n dX11_rule_32 rfl rfl ?_
        refine x_getf dX11_rule_33 lf_X11_22 (kc hi kf_0) kv_0_4 ?_
        refine x_new (q := (_, _, _)) dX11_rule_36 (show vwCl[7]? = some _ from rfl) tb620 (by decide) (fun a36 hn36 => ?_)
        have hfs := fresh_st hi hn36
        rw [cm_md hfs.1]
        refine x_dup dX11_rule_39 rfl ?_
        refine x_iload_n dX11_rule_40 rfl rfl ?_
        refine x_aload_n dX11_rule_41 rfl rfl ?_
        refine x_getf dX11_rule_42 lf_X11_88 (kc hi kf_0) kv_0_0 ?_
        rw [show (rS κ a (nI cs.length) f').1 0 = σ.1 1 from (hk1.1 0 (by decide) (by decide)).trans hK.1]
        refine x_aload_n dX11_rule_45 rfl rfl ?_
        refine x_getf dX11_rule_46 lf_X11_37 (kc hi kf_0) kv_0_8 ?_
        refine x_rV0 dX11_rule_49 lv_X11_190 (kc hi kf_8) rfl rfl rfl ⟨by decide, by decide⟩ (c_X9_codesRead (d := d + 62) hi hcd (by omega) ?_)
        intro h hh
        have hfh := fresh_st hi hh
        have hvh : a36 ≠ h := fun z => by
          rw [← z, cm_out hfs.1, mset_eq] at hh; cases hh
        have hMd : Md h = none := by
          have := hfh.2
          rw [mset_ne (Ne.symm hvh)] at this
          exact this
        refine x_cI3 dX11_rule_52 li_X11_194 rfl rfl  (c_X6_init (f := fun j => defaultValue (vwTy 7 j)) (by rw [mset_ne hvh, cm_out hfs.1]; exact mset_eq) ?_)
        intro fv g0 g1 g2
        rw [mset_re hfs.1 hfh.1 hvh]
        refine x_rel (fun hge => ?_)
        have hgeh : G.2.1.heap.size ≤ h := hge h _ (by rw [mset_ne (Ne.symm hvh), cm_out hfh.1]; exact mset_eq)
        have hD2 := Dyn_cod (X := (100, cs.length, fun j => .int (cs.getD j 0))) hD rfl hMd hfh.1 hgeh
        have hv0 : cm τ (rS κ a (nI cs.length) f') (mset Md h (100, cs.length, fun j => .int (cs.getD j 0))) a36 = none := by rw [cm_out hfs.1, mset_ne hvh]; exact hfs.2
        refine x_rV1 dX11_rule_55 lv_X11_108 (by rw [mset_ne (fr_ne hv0 (hD2.lc 4 li_4))]; exact hD2.lc 4 li_4) rfl rfl rfl ⟨by decide, by decide⟩ (c_lst_addG (k := 4) (oRule σ fr) hi hD2 li_4 hZ hv0 rfl tb1763 (by show cn σ 25 ≤ 266; omega) hn1 (fun j hj hjk => ?_) (fun ω1 j i hj hij => ?_) (fun r hr => ?_) (fun j hj => ?_) (LinP_k (oRule_1 (by decide) (by decide)) (oRule_1 (by decide) (by decide)) (oRule_2 (by decide) (by decide) (by decide) (by decide)) hD.2.2.2.2.2) ?_)
        · have h9 : j = 1 ∨ j = 2 ∨ j = 3 ∨ j = 4 ∨ j = 5 ∨ j = 6 ∨ j = 7 := by have := hj.1; have := hj.2; omega
          rcases h9 with rfl | rfl | rfl | rfl | rfl | rfl | rfl
          · exact cn_of (oRule_1 (by decide) (by decide))
          · exact cn_of (oRule_1 (by decide) (by decide))
          · exact cn_of (oRule_1 (by decide) (by decide))
          · exact absurd rfl hjk
          · exact cn_of (oRule_1 (by decide) (by decide))
          · exact cn_of (oRule_1 (by decide) (by decide))
          · exact cn_of (oRule_1 (by decide) (by decide))
        · exact oV_or hj hij
        · rw [hn1] at hr
          by_cases e : r = cn σ 25
          · subst e
            show mset Md h _ (if 8 = 8 ∧ cn σ 25 = cn σ 25 then h else ω 8 (cn σ 25)) = _
            rw [if_pos ⟨rfl, rfl⟩, mset_eq, codS_new hc hok]
          · show mset Md h _ (if 8 = 8 ∧ r = cn σ 25 then h else ω 8 r) = _
            have hx := hD.2.2.2.2.1 r (by omega)
            rw [if_neg (fun z => e z.2), mset_ne (fun z => by rw [z, hMd] at hx; cases hx), codS_old (by omega) (hR r (by omega))]
            exact hx
        · match j, hj with
          | 0, _ => exact g0.trans (congrArg Value.int (by rw [oRule_21]; exact updB_eq.symm))
          | 1, _ => exact g1.trans (congrArg Value.int (by rw [oRule_22]; exact updB_eq.symm))
          | 2, _ => exact g2.trans (congrArg Value.ref (if_pos ⟨rfl, rfl⟩).symm)
        intro Md' ω' ε' hD
        refine x_pop dX11_rule_58 rfl ?_
        refine x_aload_n dX11_rule_59 rfl rfl ?_
        refine x_getf dX11_rule_60 lf_X11_37 (kc hi kf_0) kv_0_8 ?_
        refine x_iconst (v := 0) dX11_rule_63 (by decide) ?_
        refine x_cV1 dX11_rule_64 lv_X11_182 (kc hi kf_8) rfl rfl rfl  (c_X9_cut (n := 0) hi hc (Tp_KR hk1 hTp) (Nat.zero_le _) ?_)
        intro κ2 hk2 hT2
        refine x_aload_n dX11_rule_67 rfl rfl ?_
        refine x_getf dX11_rule_68 lf_X11_22 (kc hi kf_0) kv_0_4 ?_
        refine x_cV0 dX11_rule_71 lv_X11_100 (hD.lc 4 li_4) rfl rfl rfl (c_lsz_4 hD ?_)
        rw [show cn (oRule σ fr) 25 = cn σ 25 + 1 from hn1]
        refine x_iconst (v := 1) dX11_rule_74 (by decide) ?_
        refine x_isub dX11_rule_75 ?_
        rw [nI_pred]
        exact x_ireturn dX11_rule_76 rfl rfl ((by
have h := hq κ2 Md' ω' ε' (KRF.f hk1 hk2)
rw [show nRule σ fr = oRule σ fr from cI_t hp, show aRule σ fr = σ.1 25 from cI_t hp] at h
have h24' : (oRule σ fr).1 24 = 0 := by
  show updB (updB (cpyT σ (cn σ 24)).1 25 (σ.1 25 + 1)) 24 0 24 = 0
  rw [updB_eq]
refine fin (h ⟨hT2.1.trans ?_, fun i hi => ?_⟩ hD) e1
· rw [h24']; rfl
· exfalso
  have h25 : cn (oRule σ fr) 24 = 0 := by
    show ((oRule σ fr).1 24).toNatClampNeg = 0
    rw [h24']; rfl
  rw [h25] at hi; omega))
      · have hk1 := KR_rS (κ := κ) (a := a) (m := nI m) (f := f')
        have hx := (Gc_rule (b := σ.2 18) (n := cn σ 24) (lb := 0) L0_bd).2 x' herr
        have h24 := (hc.b 24 (b := 160) (by decide)).2
        refine x_iconst (v := -1) dX11_rule_26 (by decide) ?_
        refine x_icmp_eq (tgt := 32) dX11_rule_27 (by decide) (fun z => absurd z (nI_n1 (by omega))) (fun _ => ?_)
        refine x_iconst (v := -1) dX11_rule_30 (by decide) ?_
        exact x_ireturn dX11_rule_31 rfl rfl (hno _ hk1 (fun z => by
have h9 := z.1
rw [aFau_er herr] at h9
exact nI_n1 (by omega) h9))
end RUL
