/-! the frame rule: memories side by side -/
def mun (M1 M2 : Mem) : Mem := fun a => match M1 a with
  | some c => some c
  | none => M2 a
def Dj (M1 M2 : Mem) : Prop := ∀ a c, M2 a = some c → M1 a = none
theorem mun_l {M1 M2 : Mem} {a : Nat} {c : Cel} (h : M1 a = some c) : mun M1 M2 a = some c := by unfold mun; rw [h]
theorem mun_r {M1 M2 : Mem} {a : Nat} (h : M1 a = none) : mun M1 M2 a = M2 a := by unfold mun; rw [h]
theorem mun_d {M1 M2 : Mem} {a : Nat} {c : Cel} (hd : Dj M1 M2) (h : M2 a = some c) : mun M1 M2 a = some c := by rw [mun_r (hd a c h)]; exact h
theorem Dj.sym {M1 M2 : Mem} (h : Dj M1 M2) : Dj M2 M1 := fun a c z => by
  cases e : M2 a with
  | none => rfl
  | some c2 => rw [h a c2 e] at z; cases z
theorem mun_cm {M1 M2 : Mem} (h : Dj M1 M2) : mun M1 M2 = mun M2 M1 := by
  funext a
  unfold mun
  cases e1 : M1 a with
  | none => cases e2 : M2 a <;> rfl
  | some c1 => rw [h.sym a c1 e1]
theorem mun_as (M1 M2 M3 : Mem) : mun (mun M1 M2) M3 = mun M1 (mun M2 M3) := by
  funext a
  unfold mun
  cases e1 : M1 a <;> rfl
theorem Dj.un {M1 M2 M3 : Mem} (h2 : Dj M1 M2) (h3 : Dj M1 M3) : Dj M1 (mun M2 M3) := fun a c z => by
  cases e : M2 a with
  | none => rw [mun_r e] at z; exact h3 a c z
  | some c2 => exact h2 a c2 e
theorem Dj.l {M1 M2 M3 : Mem} (h : Dj M1 (mun M2 M3)) : Dj M1 M2 := fun a c z => h a c (mun_l z)
theorem Dj.r {M1 M2 M3 : Mem} (h : Dj M1 (mun M2 M3)) : Dj M1 M3 := fun a c z => by
  cases e : M2 a with
  | none => exact h a c (by rw [mun_r e]; exact z)
  | some c2 => exact h a c2 (mun_l e)
theorem fr_F {M1 M2 : Mem} {sz : Nat} {st t : State} (h : va_F (AX M1 sz) st t) : va_F (AX (mun M1 M2) sz) st t :=
  ⟨h.1, fun q h1 h2 => h.2 q h1 (fun z => h2 (z.elim (fun ⟨c, hc⟩ => Or.inl ⟨c, mun_l hc⟩) Or.inr))⟩
/-- what stays and what is new, behind a run that saw M1 alone -/
theorem fr_M {G : Gam} {M1 M2 M' : Mem} {sz : Nat} {st t : State} (hd : Dj M1 M2) (hsz : st.heap.size = sz) (hR : Rel G (mun M1 M2) st.heap) (hF : va_F (AX M1 sz) st t) (hR' : Rel G M' t.heap) (hA : ∀ a c, M' a = some c → AX M1 sz a) : Dj M' M2 ∧ Rel G (mun M' M2) t.heap ∧ ∀ a c, mun M' M2 a = some c → AX (mun M1 M2) sz a := by
  have hlow : ∀ a c, M2 a = some c → ¬ AX M1 sz a := fun a c z w => by
    rcases w with ⟨c1, h1⟩ | w
    · rw [hd a c z] at h1; cases h1
    · have := cAt_lt (hR a c (mun_d hd z)).2
      omega
  have hdj : Dj M' M2 := fun a c z => by
    cases e : M' a with
    | none => rfl
    | some c1 => exact absurd (hA a c1 e) (hlow a c z)
  refine ⟨hdj, fun a c z => ?_, fun a c z => ?_⟩
  · cases e : M' a with
    | some c1 => rw [mun_l e] at z; cases z; exact hR' a _ e
    | none =>
      rw [mun_r e] at z
      have h0 := hR a c (mun_d hd z)
      exact ⟨h0.1, cAt_kept h0.2 (hF.2 a (cAt_lt h0.2) (hlow a c z))⟩
  · cases e : M' a with
    | some c1 =>
      rcases hA a c1 e with ⟨c2, h2⟩ | h2
      · exact Or.inl ⟨c2, mun_l h2⟩
      · exact Or.inr h2
    | none =>
      rw [mun_r e] at z
      exact Or.inl ⟨c, mun_d hd z⟩
theorem AX_un {M1 M2 : Mem} {sz q : Nat} (h : AX M1 sz q) : AX (mun M1 M2) sz q := by
  rcases h with ⟨c, hc⟩ | h
  · exact Or.inl ⟨c, mun_l hc⟩
  · exact Or.inr h
theorem Rel.l {G : Gam} {M1 M2 : Mem} {H : Heap} (h : Rel G (mun M1 M2) H) : Rel G M1 H := fun a c z => h a c (mun_l z)
section FRA
variable {G : Gam} {d : Nat} {k : Nat × Nat} {Y : MR} {av : List Value} {M1 M2 : Mem} {Q Q1 : Option Value → Mem → Prop} {QE QE1 : Mem → Prop}
theorem fr_X {sz : Nat} {st t : State} {oc : Outcome} (hd : Dj M1 M2) (hq : ∀ r M', Q1 r M' → Dj M' M2 → Q r (mun M' M2)) {a : Array Value} (hP : va_Pc av (PX G (mun M1 M2) sz) a st) (z : QX G (AX M1 sz) Q1 a st oc t) : QX G (AX (mun M1 M2) sz) Q a st oc t := by
  obtain ⟨⟨r, M', h1, h2, h3, h4⟩, h5⟩ := z
  obtain ⟨-, hB, hW, hO, hsz, hR⟩ := hP
  obtain ⟨k1, k2, k3⟩ := fr_M hd hsz hR h5 h3 h4
  exact ⟨⟨r, _, h1, hq r M' h2 k1, k2, k3⟩, fr_F h5⟩
theorem fr_P {sz : Nat} {a : Array Value} {s : State} (hP : va_Pc av (PX G (mun M1 M2) sz) a s) : va_Pc av (PX G M1 sz) a s :=
  ⟨hP.1, hP.2.1, hP.2.2.1, hP.2.2.2.1, hP.2.2.2.2.1, Rel.l hP.2.2.2.2.2⟩
theorem CT.frame (h : CT G d k Y av M1 Q1) (hd : Dj M1 M2) (hq : ∀ r M', Q1 r M' → Dj M' M2 → Q r (mun M' M2)) : CT G d k Y av (mun M1 M2) Q := by
  intro sz
  refine MetFree.mono (h sz) (fun a s z => fr_P z) (fun _ _ _ _ _ z => z) (fun a s o t hP z => ?_)
  obtain ⟨z1, L, z2, z3⟩ := z
  exact ⟨fr_X hd hq hP z1, L, z2, fun q hq => AX_un (z3 q hq)⟩
theorem CTH.frame {hh : List (Nat × Nat × Nat × Nat)} (h : CTH G d k Y hh av M1 Q1) (hd : Dj M1 M2) (hq : ∀ r M', Q1 r M' → Dj M' M2 → Q r (mun M' M2)) : CTH G d k Y hh av (mun M1 M2) Q := by
  intro sz
  refine MetFree.mono (h sz) (fun a s z => fr_P z) (fun _ _ _ _ _ z => z) (fun a s o t hP z => ?_)
  obtain ⟨z1, L, z2, z3⟩ := z
  exact ⟨fr_X hd hq hP z1, L, z2, fun q hq => AX_un (z3 q hq)⟩
theorem CTX.frame (h : CTX G d k Y av M1 Q1 QE1) (hd : Dj M1 M2) (hq : ∀ r M', Q1 r M' → Dj M' M2 → Q r (mun M' M2)) (hqe : ∀ M', QE1 M' → Dj M' M2 → QE (mun M' M2)) : CTX G d k Y av (mun M1 M2) Q QE := by
  intro sz
  refine MetFree.mono (h sz) (fun a s z => fr_P z) (fun _ _ _ _ _ z => z) (fun a s o t hP z => ?_)
  rcases z with ⟨z1, L, z2, z3⟩ | ⟨q, ho, E, ce, L, ⟨hE, ⟨M', h2, h3, h4⟩, hF⟩, w1, w2, w3, w4, w5, w6⟩
  · exact Or.inl ⟨fr_X hd hq hP z1, L, z2, fun q hq => AX_un (z3 q hq)⟩
  · obtain ⟨-, hB, hW, hO, hsz, hR⟩ := hP
    obtain ⟨k1, k2, k3⟩ := fr_M hd hsz hR hF h3 h4
    exact Or.inr ⟨q, ho, E, ce, L, ⟨hE, ⟨_, hqe M' h2 k1, k2, k3⟩, fr_F hF⟩, w1, w2, w3, w4, w5, fun z hz => AX_un (w6 z hz)⟩
end FRA
