/-! the class, 15: the dynamic part grows by one object -/
theorem cAt_ext {D : va_G} {tA : Nat → ClassId} {a ci n : Nat} {f f' : Nat → Value} {H : Heap} (h : cAt D tA a (ci, n, f) H) (hf : ∀ j, j < n → f j = f' j) : cAt D tA a (ci, n, f') H := by
  rcases h with ⟨h1, q, h2, h3, h4⟩ | ⟨h1, h2⟩
  · refine Or.inl ⟨h1, q, h2, h3, t_OB.to h4 (fun j hj => hf j ?_)⟩
    have h3' : q.2.2 = n := h3
    omega
  · refine Or.inr ⟨h1, h2.trans (congrArg some ?_)⟩
    have : (fun j : Fin n => f j.val) = fun j => f' j.val := funext (fun j => hf j.val j.isLt)
    show arrV (tA ci) n f = arrV (tA ci) n f'
    unfold arrV
    rw [this]
section XMM
variable {G : Gam} {d : Nat} {k : Nat × Nat} {Y : MR} {M M' : Mem} {lv : Lv} {st : List Value} {pc : Nat} {Q : Option Value → Mem → Prop}
/-- the same cells, but for what lies past their ends -/
theorem x_mext (h : ∀ b c', M' b = some c' → ∃ f, M b = some (c'.1, c'.2.1, f) ∧ ∀ j, j < c'.2.1 → f j = c'.2.2 j) (kk : XJ G d k Y M' lv st pc Q) : XJ G d k Y M lv st pc Q := by
  intro p e R s m args below meth c H locs cells slots A ls hC hH hl
  refine kk p e R s m args below meth c H locs cells slots A ls hC ⟨fun a c0 h0 => ?_, fun a c0 h0 => ?_, hH.2.2⟩ hl
  · obtain ⟨f, h1, h2⟩ := h a c0 h0
    obtain ⟨g1, g2⟩ := hH.1 a _ h1
    exact ⟨g1, cAt_ext g2 h2⟩
  · obtain ⟨f, h1, -⟩ := h a c0 h0
    exact hH.2.1 a _ h1
end XMM
theorem cmA_out {τ : Nat → Nat} {κ : MS} {Md : Mem} {a : Nat} : ∀ (l : List (Nat × Nat × Nat)), (∀ q ∈ l, a ≠ τ q.1) → cmA τ κ Md l a = Md a
  | [], _ => rfl
  | (j, c0, n0) :: t, hl => by
    show (if a = τ j then _ else _) = _
    rw [if_neg (hl (j, c0, n0) List.mem_cons_self)]
    exact cmA_out t (fun q hq => hl q (List.mem_cons_of_mem _ hq))
theorem cm_out {τ : Nat → Nat} {κ : MS} {Md : Mem} {a : Nat} (h : ∀ q ∈ kArr, a ≠ τ q.1) : cm τ κ Md a = Md a := cmA_out kArr h
theorem cmA_in {τ : Nat → Nat} {κ : MS} {Md Md' : Mem} {a : Nat} : ∀ (l : List (Nat × Nat × Nat)), (∃ q ∈ l, a = τ q.1) → cmA τ κ Md l a = cmA τ κ Md' l a
  | [], h => by obtain ⟨q, hq, -⟩ := h; cases hq
  | (j, c0, n0) :: t, h => by
    show (if a = τ j then _ else _) = (if a = τ j then _ else _)
    by_cases e : a = τ j
    · rw [if_pos e, if_pos e]
    · rw [if_neg e, if_neg e]
      refine cmA_in t ?_
      obtain ⟨q, hq, hz⟩ := h
      rcases List.mem_cons.mp hq with h1 | h1
      · exact absurd (by rw [h1] at hz; exact hz) e
      · exact ⟨q, h1, hz⟩
theorem oV_w {ω ω' : Nat → Nat → Nat} {σ : MS} {j i : Nat} (h : ∀ i, ω' 8 i = ω 8 i) (h1 : j = 2 → ω' 1 (pw σ i) = ω 1 (pw σ i)) : oV ω' σ j i = oV ω σ j i := by
  by_cases e : j = 2
  · subst e
    have h2 : ω' 1 (σ.2 8 i).toNatClampNeg = ω 1 (σ.2 8 i).toNatClampNeg := h1 rfl
    unfold oV
    simp only [h2]
  · unfold oV
    split <;> first | rfl | (exact absurd rfl e) | (rw [h i])
theorem oK_lt : ∀ j, isLi j → (oK j).1 < 14 ∧ (oK j).1 ≠ 0 := by
  rintro j ⟨h1, h2⟩
  have : ∀ j, j < 8 → 1 ≤ j → (oK j).1 < 14 ∧ (oK j).1 ≠ 0 := by decide
  exact this j (by omega) h1
theorem kArr_li : ∀ q ∈ kArr, ¬ isLi q.1 := by
  have : ∀ q ∈ kArr, ¬ (1 ≤ q.1 ∧ q.1 ≤ 7) := by decide
  exact this
theorem Dyn_add {G : Gam} {τ : Nat → Nat} {ω : Nat → Nat → Nat} {ε : Nat → Nat} {σ σ' κ : MS} {Md M' : Mem} {k n v : Nat} {fv : Nat → Value} (hi : adOK τ) (hD : Dyn G τ ω ε σ Md) (hk : isLi k) (hk4 : k ≠ 4) (hn : n = cn σ (cK k)) (hv : Md v = none) (hvs : ∀ q ∈ kArr, v ≠ τ q.1) (hA : AddR (cm τ κ (mset Md v ((oK k).1, (oK k).2, fv))) M' (τ k) (ε k) n v (ω k)) (hge : ∀ a c, M' a = some c → G.2.1.heap.size ≤ a)
    (s1 : cn σ' (cK k) = n + 1) (s2 : ∀ j, isLi j → j ≠ k → cn σ' (cK j) = cn σ (cK j)) (s3 : ∀ (ω : Nat → Nat → Nat) j i, isLi j → i < cn σ (cK j) → oV ω σ' j i = oV ω σ j i) (s4 : ∀ r, r < cn σ 25 → codS σ' r = codS σ r) (s5 : ∀ j, j < (oK k).2 → fv j = oV ω σ' k n j) (s6 : LinP σ') :
    ∃ Md' ω' ε', (∀ b c', cm τ κ Md' b = some c' → ∃ f, M' b = some (c'.1, c'.2.1, f) ∧ ∀ j, j < c'.2.1 → f j = c'.2.2 j) ∧ Dyn G τ ω' ε' σ' Md' := by
  obtain ⟨m', e', N', g', fl, a1, a2, a3, a4, a5, a6, a7, a8, a9, a10⟩ := hA
  obtain ⟨hAp, hLs, hOb, hDi, hCo, hLP⟩ := hD
  have hMl : ∀ j, isLi j → ∃ c, Md (τ j) = some (0, 3, c) := fun j hj => by
    obtain ⟨m, N, g, h1, -⟩ := hLs j hj
    exact ⟨_, h1⟩
  have hrow : ∀ j, isLi j → (∃ N g, Md (ε j) = some (106, N, g)) ∨ (OldE G (ε j) ∧ Md (ε j) = none) := fun j hj => by
    obtain ⟨m, N, g, -, h | h⟩ := hLs j hj
    · exact Or.inr h.2
    · exact Or.inl ⟨N, g, h.1⟩
  have hst : ∀ a c, Md a = some c → ∀ q ∈ kArr, a ≠ τ q.1 := fun a c h q hq z => by
    have := hAp q hq; rw [← z, h] at this; cases this
  have hvl : ∀ j, isLi j → v ≠ τ j := fun j hj z => by
    obtain ⟨c, h⟩ := hMl j hj
    rw [← z, hv] at h; cases h
  -- where the row lies now
  have hvM : cm τ κ (mset Md v ((oK k).1, (oK k).2, fv)) v = some ((oK k).1, (oK k).2, fv) := by rw [cm_out hvs]; exact mset_eq
  have hlow : ∀ a c, Md a = some c → cm τ κ (mset Md v ((oK k).1, (oK k).2, fv)) a = some c := fun a c h => by
    rw [cm_out (hst a c h), mset_ne (fun z => by rw [z, hv] at h; cases h)]; exact h
  have hse : ∀ q ∈ kArr, e' ≠ τ q.1 := by
    intro q hq z
    have hex : ∃ c, cm τ κ (mset Md v ((oK k).1, (oK k).2, fv)) (τ q.1) = some c := by
      have : ∀ q ∈ kArr, mFind kArr q.1 = some (q.2.1, q.2.2) := by decide
      exact ⟨_, kc hi (this q hq)⟩
    obtain ⟨c, hc⟩ := hex
    rcases a9 with ⟨b1, b2⟩ | b
    · rcases hrow k hk with ⟨N, g, h⟩ | ⟨h, h0⟩
      · exact hst _ _ h q hq (b1.symm.trans z)
      · have hqk : τ q.1 = τ q.1 := rfl
        have hge' := hge e' _ a3
        rw [b1] at hge'
        have := h.lt
        omega
    · rw [z, hc] at b; cases b
  have hle : τ k ≠ e' := fun z => by
    rw [z, a3] at a1
    have h0 : (106 : Nat) = 0 := congrArg (fun c : Cel => c.1) (Option.some.inj a1)
    omega
  have hve : v ≠ e' := fun z => by
    rcases a9 with ⟨b1, b2⟩ | b
    · rcases hrow k hk with ⟨N, g, h⟩ | ⟨h, h0⟩
      · rw [← b1, ← z, hv] at h; cases h
      · have hge' := hge e' _ a3
        rw [b1] at hge'
        have := h.lt
        omega
    · rw [← z, hvM] at b; cases b
  have hMv : M' v = some ((oK k).1, (oK k).2, fv) := by rw [a10 v (hvl k hk) hve]; exact hvM
  -- what stood elsewhere is not there
  have hob : ∀ a c, Md a = some c → c.1 ≠ 106 → a ≠ e' := fun a c h hc z => by
    rcases a9 with ⟨b1, b2⟩ | b
    · rcases hrow k hk with ⟨N, g, h'⟩ | ⟨h', h0⟩
      · rw [← b1, ← z, h] at h'
        exact hc (congrArg (fun c : Cel => c.1) (Option.some.inj h'))
      · rw [← b1, ← z, h] at h0; cases h0
    · rw [← z, hlow a c h] at b; cases b
  have hF : ∀ j, isLi j → j ≠ k → ε j ≠ e' := fun j hj hjk z => by
    rcases hrow j hj with ⟨N, g, h⟩ | ⟨h, h0⟩
    · rcases a9 with ⟨b1, b2⟩ | b
      · exact hDi j k hj hk hjk (by rw [h]; exact fun y => by cases y) (z.trans b1)
      · rw [← z, hlow _ _ h] at b; cases b
    · have := h.lt
      have hge' := hge e' _ a3
      omega
  have hel : ∀ j, isLi j → ε j ≠ τ k := fun j hj z => by
    obtain ⟨c, h⟩ := hMl k hk
    rcases hrow j hj with ⟨N, g, h'⟩ | ⟨h', h0⟩
    · rw [z, h] at h'
      have h0 : (0 : Nat) = 106 := congrArg (fun c : Cel => c.1) (Option.some.inj h')
      omega
    · rw [z, h] at h0; cases h0
  have hev : ∀ j, isLi j → ε j ≠ v := fun j hj z => by
    rcases hrow j hj with ⟨N, g, h'⟩ | ⟨h', h0⟩
    · rw [z, hv] at h'; cases h'
    · have := h'.lt
      have hge' := hge v _ hMv
      omega
  have hpres : ∀ a c, Md a = some c → c.1 ≠ 0 → c.1 ≠ 106 → a ≠ τ k ∧ a ≠ e' ∧ a ≠ v := fun a c h h0 h1 => by
    refine ⟨fun z => ?_, hob a c h h1, fun z => by rw [z, hv] at h; cases h⟩
    obtain ⟨c2, h2⟩ := hMl k hk
    rw [z, h2] at h
    exact h0 (congrArg (fun c : Cel => c.1) (Option.some.inj h)).symm
  let ω' : Nat → Nat → Nat := fun j i => if j = k ∧ i = n then v else ω j i
  let ε' : Nat → Nat := fun j => if j = k then e' else ε j
  let Md' : Mem := mset (mset (mset Md v ((oK k).1, (oK k).2, oV ω σ' k n)) e' (106, N', g')) (τ k) (0, 3, fL m' e' (nI (n + 1)))
  have hk8 : ¬ 8 = k := fun z => by have := hk.2; omega
  have w8 : ∀ i, ω' 8 i = ω 8 i := fun i => if_neg (fun z => hk8 z.1)
  have q1 : Md' (τ k) = some (0, 3, fL m' e' (nI (n + 1))) := mset_eq
  have q2 : Md' e' = some (106, N', g') := by
    show mset _ _ _ _ = _
    rw [mset_ne (Ne.symm hle)]; exact mset_eq
  have q3 : Md' v = some ((oK k).1, (oK k).2, oV ω σ' k n) := by
    show mset _ _ _ _ = _
    rw [mset_ne (hvl k hk), mset_ne hve]; exact mset_eq
  have q4 : ∀ a, a ≠ τ k → a ≠ e' → a ≠ v → Md' a = Md a := fun a x y z => by
    show mset _ _ _ _ = _
    rw [mset_ne x, mset_ne y, mset_ne z]
  refine ⟨Md', ω', ε', fun b c' hb => ?_, ?_⟩
  · by_cases hs : ∃ q ∈ kArr, b = τ q.1
    · obtain ⟨q, hq, hz⟩ := id hs
      have h1 : b ≠ τ k := fun y => kArr_li q hq (by
        have h100 : q.1 < 100 := kArr_lt q hq
        have := hi q.1 k h100 (by have := hk.2; omega) (hz.symm.trans y)
        rw [this]; exact hk)
      have h2 : b ≠ e' := fun y => hse q hq (y.symm.trans hz)
      refine ⟨c'.2.2, ?_, fun _ _ => rfl⟩
      rw [a10 b h1 h2]
      exact (cmA_in kArr hs).trans hb
    · have hs' : ∀ q ∈ kArr, b ≠ τ q.1 := fun q hq z => hs ⟨q, hq, z⟩
      rw [cm_out hs'] at hb
      by_cases e1 : b = τ k
      · subst e1
        rw [q1] at hb
        cases hb
        exact ⟨fl, a1, a2⟩
      · by_cases e2 : b = e'
        · rw [e2, q2] at hb
          cases hb
          rw [e2]
          exact ⟨g', a3, fun _ _ => rfl⟩
        · by_cases e3 : b = v
          · rw [e3, q3] at hb
            cases hb
            rw [e3]
            exact ⟨fv, hMv, s5⟩
          · rw [q4 b e1 e2 e3] at hb
            refine ⟨c'.2.2, ?_, fun _ _ => rfl⟩
            rw [a10 b e1 e2]
            exact hlow b c' hb
  · refine ⟨fun q hq => ?_, fun j hj => ?_, fun j i hj hij => ?_, fun j j' hj hj' hne hns => ?_, fun r hr => ?_, s6⟩
    · have h1 : τ q.1 ≠ τ k := fun y => kArr_li q hq (by
        have h100 : q.1 < 100 := kArr_lt q hq
        have := hi q.1 k h100 (by have := hk.2; omega) y
        rw [this]; exact hk)
      rw [q4 _ h1 (Ne.symm (hse q hq)) (Ne.symm (hvs q hq))]
      exact hAp q hq
    · by_cases ejk : j = k
      · subst ejk
        refine ⟨m', N', g', ?_, Or.inr ⟨?_, ?_, a5, a6, fun i hi2 => ?_⟩⟩
        · show Md' (τ j) = some (0, 3, fL m' (if j = j then e' else ε j) (nI (cn σ' (cK j))))
          rw [if_pos rfl, s1]; exact q1
        · show Md' (if j = j then e' else ε j) = _
          rw [if_pos rfl]; exact q2
        · rw [s1]; exact a4
        · rw [s1] at hi2
          show g' i = .ref (if j = j ∧ i = n then v else ω j i)
          by_cases e : i = n
          · rw [if_pos ⟨rfl, e⟩, e]; exact a8
          · rw [if_neg (fun z => e z.2)]; exact a7 i (by omega)
      · have hwj : ω' j = ω j := funext (fun i => if_neg (fun z => ejk z.1))
        have hej : ε' j = ε j := if_neg ejk
        obtain ⟨m, N, g, h1, h2⟩ := hLs j hj
        have hτ : τ j ≠ τ k := fun y => ejk (hi j k (by have := hj.2; omega) (by have := hk.2; omega) y)
        rw [hwj, hej, s2 j hj ejk]
        refine ⟨m, N, g, ?_, ?_⟩
        · rw [q4 _ hτ (hob _ _ h1 (show (0 : Nat) ≠ 106 by decide)) (Ne.symm (hvl j hj))]; exact h1
        · rw [q4 _ (hel j hj) (hF j hj ejk) (hev j hj)]; exact h2
    · by_cases e : j = k ∧ i = n
      · obtain ⟨e1, e2⟩ := e
        subst e1
        subst e2
        show Md' (if j = j ∧ i = i then v else ω j i) = _
        have hw1 : j = 2 → ω' 1 (pw σ' i) = ω 1 (pw σ' i) := fun z => if_neg (fun y => by have := y.1; omega)
        rw [if_pos ⟨rfl, rfl⟩, oV_w w8 hw1]; exact q3
      · have hlt : i < cn σ (cK j) := by
          by_cases ejk : j = k
          · subst ejk
            rw [s1] at hij
            have : ¬ i = n := fun z => e ⟨rfl, z⟩
            omega
          · rw [s2 j hj ejk] at hij; exact hij
        have hw : ω' j i = ω j i := if_neg e
        have h1 := hOb j i hj hlt
        obtain ⟨p1, p2, p3⟩ := hpres _ _ h1 (oK_lt j hj).2 (by have := (oK_lt j hj).1; show (oK j).1 ≠ 106; omega)
        have hwr : j = 2 → ω' 1 (pw σ i) = ω 1 (pw σ i) := fun z => if_neg (fun y => by
          subst z
          have h3 : pw σ i < cn σ 15 := pw_lt hLP hlt
          have h4 : n = cn σ 15 := hn.trans (by rw [← y.1]; rfl)
          have := y.2
          omega)
        rw [hw, s3 ω' j i hj hlt, oV_w w8 hwr, q4 _ p1 p2 p3]; exact h1
    · show (if j = k then e' else ε j) ≠ (if j' = k then e' else ε j')
      by_cases e1 : j = k
      · rw [if_pos e1, if_neg (fun z => hne (e1.trans z.symm))]
        exact Ne.symm (hF j' hj' (fun z => hne (e1.trans z.symm)))
      · rw [if_neg e1]
        by_cases e2 : j' = k
        · rw [if_pos e2]; exact hF j hj e1
        · rw [if_neg e2]
          refine hDi j j' hj hj' hne ?_
          have hej : ε' j = ε j := if_neg e1
          rw [hej, q4 _ (hel j hj) (hF j hj e1) (hev j hj)] at hns
          exact hns
    · have hr' : r < cn σ 25 := by
        have h4 : isLi 4 := ⟨by decide, by decide⟩
        have := s2 4 h4 (Ne.symm hk4)
        have h5 : cn σ' 25 = cn σ 25 := this
        omega
      have h1 := hCo r hr'
      obtain ⟨p1, p2, p3⟩ := hpres _ _ h1 (by show (100 : Nat) ≠ 0; decide) (by show (100 : Nat) ≠ 106; decide)
      rw [w8, s4 r hr', q4 _ p1 p2 p3]; exact h1
