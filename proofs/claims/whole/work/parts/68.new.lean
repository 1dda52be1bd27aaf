/-! the class, 16: objects are made; a list of the house takes one -/
def Ext (M' M'' : Mem) : Prop := ∀ b c', M'' b = some c' → ∃ f, M' b = some (c'.1, c'.2.1, f) ∧ ∀ j, j < c'.2.1 → f j = c'.2.2 j
theorem CT.ext {G : Gam} {d : Nat} {k : Nat × Nat} {Y : MR} {av : List Value} {M : Mem} {Q Q' : Option Value → Mem → Prop} (h : CT G d k Y av M Q') (hq : ∀ r M', Q' r M' → (∀ a c, M' a = some c → G.2.1.heap.size ≤ a) → ∃ M'', Ext M' M'' ∧ Q r M'') : CT G d k Y av M Q := by
  intro sz
  refine MetFree.mono (h sz) (fun a s z => z) (fun _ _ _ _ _ z => z) (fun a s o t _ z => ?_)
  obtain ⟨⟨⟨r, M', h1, h2, h3⟩, h4⟩, h5⟩ := z
  obtain ⟨M'', e, q⟩ := hq r M' h2 (fun a c0 h0 => (h3.1 a c0 h0).1)
  refine ⟨⟨⟨r, M'', h1, q, fun a c0 h0 => ?_, fun a c0 h0 => ?_⟩, h4⟩, h5⟩
  · obtain ⟨f, g1, g2⟩ := e a c0 h0
    obtain ⟨k1, k2⟩ := h3.1 a _ g1
    exact ⟨k1, cAt_ext k2 g2⟩
  · obtain ⟨f, g1, -⟩ := e a c0 h0
    exact h3.2 a _ g1
theorem fresh_st {τ : Nat → Nat} {κ : MS} {Md : Mem} {v : Nat} (hi : adOK τ) (h : cm τ κ Md v = none) : (∀ q ∈ kArr, v ≠ τ q.1) ∧ Md v = none := by
  have h1 : ∀ q ∈ kArr, v ≠ τ q.1 := fun q hq z => by
    have : ∀ q ∈ kArr, mFind kArr q.1 = some (q.2.1, q.2.2) := by decide
    rw [z, kc hi (this q hq)] at h; cases h
  exact ⟨h1, by rw [cm_out h1] at h; exact h⟩
theorem cm_md {τ : Nat → Nat} {κ : MS} {Md : Mem} {v : Nat} {c : Cel} (h : ∀ q ∈ kArr, v ≠ τ q.1) : mset (cm τ κ Md) v c = cm τ κ (mset Md v c) := by
  funext b
  by_cases e : b = v
  · rw [e, mset_eq, cm_out h, mset_eq]
  · rw [mset_ne e]
    by_cases hs : ∃ q ∈ kArr, b = τ q.1
    · exact cmA_in kArr hs
    · have hs' : ∀ q ∈ kArr, b ≠ τ q.1 := fun q hq z => hs ⟨q, hq, z⟩
      rw [cm_out hs', cm_out hs', mset_ne e]
section NEW
variable {G : Gam} {d : Nat} {τ : Nat → Nat} {ω : Nat → Nat → Nat} {ε : Nat → Nat} {σ κ : MS} {Md : Mem} {M : Mem} {Q : Option Value → Mem → Prop} {k : Nat}
theorem c_lst_add {v mi : Nat} {q : vw_C} {fv : Nat → Value} (σ' : MS) (hi : adOK τ) (hD : Dyn G τ ω ε σ Md) (hk : isLi k) (hk4 : k ≠ 4) (hZ : ZMir G mi) (hv0 : cm τ κ Md v = none) (hcl : vwCl[(oK k).1]? = some q) (hca : Cond.castable q.1 "java/lang/Object" ∈ lw_tbl) (hn : cn σ (cK k) ≤ 266)
    (s1 : cn σ' (cK k) = cn σ (cK k) + 1) (s2 : ∀ j, isLi j → j ≠ k → cn σ' (cK j) = cn σ (cK j)) (s3 : ∀ (ω : Nat → Nat → Nat) j i, isLi j → i < cn σ (cK j) → oV ω σ' j i = oV ω σ j i) (s4 : ∀ r, r < cn σ 25 → codS σ' r = codS σ r) (s5 : ∀ j, j < (oK k).2 → fv j = oV ω σ' k (cn σ (cK k)) j) (s6 : LinP σ')
    (hq : ∀ Md' ω' ε', Dyn G τ ω' ε' σ' Md' → Q (some (.int 1)) (cm τ κ Md')) : CT G (d + 6) (1, 400) MJx4a65c_add_9ea2d [.ref (τ k), .ref v] (mset (cm τ κ Md) v ((oK k).1, (oK k).2, fv)) Q := by
  obtain ⟨hvs, hv⟩ := fresh_st hi hv0
  have hD0 := hD
  obtain ⟨hAp, hLs, hOb, hDi, hCo, -⟩ := hD
  obtain ⟨m, N, g, h1, h2⟩ := hLs k hk
  have hvl : v ≠ τ k := fun z => by rw [← z, hv] at h1; cases h1
  rw [cm_md hvs]
  have hlow : ∀ a c, Md a = some c → cm τ κ (mset Md v ((oK k).1, (oK k).2, fv)) a = some c := fun a c h => by
    have hst : ∀ q ∈ kArr, a ≠ τ q.1 := fun q hq z => by
      have := hAp q hq; rw [← z, h] at this; cases this
    rw [cm_out hst, mset_ne (fun z => by rw [z, hv] at h; cases h)]; exact h
  have hvM : cm τ κ (mset Md v ((oK k).1, (oK k).2, fv)) v = some ((oK k).1, (oK k).2, fv) := by rw [cm_out hvs]; exact mset_eq
  have hobj : ∀ i, i < cn σ (cK k) → ∃ sz fv', cm τ κ (mset Md v ((oK k).1, (oK k).2, fv)) (ω k i) = some ((oK k).1, sz, fv') := fun i hi => ⟨_, _, hlow _ _ (hOb k i hk hi)⟩
  have hwl : ∀ i, i < cn σ (cK k) → ω k i ≠ τ k := fun i hi z => by
    have h3 := hOb k i hk hi
    rw [z, h1] at h3
    exact (oK_lt k hk).2 (congrArg (fun c : Cel => c.1) (Option.some.inj h3)).symm
  have fin1 : ∀ M', AddR (cm τ κ (mset Md v ((oK k).1, (oK k).2, fv))) M' (τ k) (ε k) (cn σ (cK k)) v (ω k) → (∀ a c, M' a = some c → G.2.1.heap.size ≤ a) → ∃ M'', Ext M' M'' ∧ Q (some (.int 1)) M'' := fun M' hA hge => by
    obtain ⟨Md', ω', ε', e1, e2⟩ := Dyn_add hi hD0 hk hk4 rfl hv hvs hA hge s1 s2 s3 s4 s5 s6
    exact ⟨_, e1, hq Md' ω' ε' e2⟩
  refine CT.ext (Q' := fun r M' => r = some (.int 1) ∧ AddR (cm τ κ (mset Md v ((oK k).1, (oK k).2, fv))) M' (τ k) (ε k) (cn σ (cK k)) v (ω k)) ?_ (fun r M' z hge => by
    obtain ⟨rfl, hA⟩ := z
    exact fin1 M' hA hge)
  rcases h2 with ⟨h3, h4, h5⟩ | ⟨h3, h4⟩
  · exact c_add (N := 0) hZ (hlow _ _ h1) ⟨hobj, Or.inl ⟨h3, rfl, h4⟩⟩ hn hcl hca hvM hvl hwl (fun M' hA => ⟨rfl, hA⟩)
  · exact c_add (N := N) hZ (hlow _ _ h1) ⟨hobj, Or.inr ⟨g, hlow _ _ h3, h4⟩⟩ hn hcl hca hvM hvl hwl (fun M' hA => ⟨rfl, hA⟩)
end NEW
