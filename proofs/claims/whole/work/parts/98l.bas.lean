/-! the start, 1: the tables -/
def ArrC (U : State) (k : Nat) (c : ClassId) : Prop := ArrOfT U c (tyA k) ∧ U.vm.findClass ("[" ++ (tyA k).toString) = some c ∧ ∃ (kA : Class) (comp : ClassId), U.vm.classes[c]? = some kA ∧ kA.kind = .array comp (tyA k)
theorem arrC_of {U : State} {k : Nat} {c comp : ClassId} {kA : Class} (h1 : U.vm.findClass ("[" ++ (tyA k).toString) = some c) (h2 : U.vm.classes[c]? = some kA) (h3 : kA.kind = .array comp (tyA k)) : ArrC U k c :=
  ⟨fun n z => ⟨fun k h => (by cases h), kA, h2, comp, h3⟩, h1, kA, comp, h2, h3⟩
theorem arrC_c {U : State} {args : Array Value} {k : Nat} (h : (Cond.arrayClass (tyA k)).before args U = true) : ∃ c, ArrC U k c := by
  obtain ⟨c, kA, comp, h1, h2, h3⟩ := Cond.arrayClass_spec h
  exact ⟨c, arrC_of h1 h2 h3⟩
theorem base_of {l : Launch} {s : State} {b : Nat} (h : ∀ w ∈ lw_tbl, w.before #[Value.ref b] s = true) : ∃ D tA, BaseOK (l, s, D, tA) := by
  have hD : ∀ c : Nat, ∃ d : ClassId × (Nat → Nat), ∀ q, vwCl[c]? = some q → u_Kn s q.1 q.2.1 q.2.2 d.1 d.2 := fun c => by
    cases e : vwCl[c]? with
    | none => exact ⟨(0, fun _ => 0), fun q hq => by cases hq⟩
    | some q =>
      obtain ⟨c0, iS, hK⟩ := u_known (C := q.1) (T := q.2.1) (N := q.2.2) (n := q.2.2) h (cl_in e) (h _ (cl_ini e).1)
      exact ⟨(c0, iS), fun q' hq => by cases hq; exact hK⟩
  have hA : ∀ k : Nat, ∃ c : ClassId, 100 ≤ k → k < 107 → ArrC s k c := fun k => by
    by_cases h0 : 100 ≤ k ∧ k < 107
    · have hk : k = 100 ∨ k = 101 ∨ k = 102 ∨ k = 103 ∨ k = 104 ∨ k = 105 ∨ k = 106 := by omega
      rcases hk with rfl | rfl | rfl | rfl | rfl | rfl | rfl
      · obtain ⟨c, hc⟩ := arrC_c (k := 100) (h _ tb89); exact ⟨c, fun _ _ => hc⟩
      · obtain ⟨c, hc⟩ := arrC_c (k := 101) (h _ tb166); exact ⟨c, fun _ _ => hc⟩
      · obtain ⟨c, hc⟩ := arrC_c (k := 102) (h _ tb88); exact ⟨c, fun _ _ => hc⟩
      · obtain ⟨c, hc⟩ := arrC_c (k := 103) (h _ tb1387); exact ⟨c, fun _ _ => hc⟩
      · obtain ⟨c, hc⟩ := arrC_c (k := 104) (h _ tb1750); exact ⟨c, fun _ _ => hc⟩
      · obtain ⟨comp, c, kA, h1, h2, h3, h4, h5⟩ := arrayOverA_spec (h _ tb141)
        exact ⟨c, fun _ _ => arrC_of (k := 105) h5 h3 h4⟩
      · obtain ⟨comp, c, kA, h1, h2, h3, h4, h5⟩ := Cond.arrayOver_spec (h _ tb316)
        exact ⟨c, fun _ _ => arrC_of (k := 106) h5 h3 h4⟩
    · exact ⟨0, fun a b => absurd ⟨a, b⟩ h0⟩
  obtain ⟨D, hD⟩ := Classical.axiomOfChoice hD
  obtain ⟨tA, hA⟩ := Classical.axiomOfChoice hA
  exact ⟨(fun c => (D c).1, fun c => (D c).2), tA, ⟨b, h⟩, ⟨fun c q hq => hD c q hq, fun k q hk => by simp at hk⟩, fun k h1 h2 => hA k h1 h2⟩
