/-! known cells, one behind another -/
def Kn (M : Mem) (L : List (Nat × Cel)) : Prop := (∀ x ∈ L, M x.1 = some x.2) ∧ (L.map (fun x => x.1)).Nodup
def fV (D : Nat → Value) : List (Nat × Value) → Nat → Value
  | [], j => D j
  | (k, v) :: t, j => bif Nat.beq j k then v else fV D t j
theorem updV_fV {D : Nat → Value} {L : List (Nat × Value)} {k : Nat} {v : Value} : updV (fV D L) k v = fV D ((k, v) :: L) := by
  funext j
  show _ = (bif Nat.beq j k then _ else _)
  by_cases e : j = k
  · subst e; rw [updV_eq, Nat.beq_refl]; rfl
  · rw [updV_ne e, beq_f e]; rfl
theorem Kn.fr {M : Mem} {L : List (Nat × Cel)} {h : Nat} (hK : Kn M L) (hh : M h = none) : ∀ x ∈ L, x.1 ≠ h := fun x hx z => by
  have := hK.1 x hx
  rw [z, hh] at this; cases this
theorem Kn.new {M : Mem} {L : List (Nat × Cel)} {h : Nat} {c : Cel} (hK : Kn M L) (hh : M h = none) : Kn (mset M h c) ((h, c) :: L) := by
  refine ⟨fun x hx => ?_, ?_⟩
  · rcases List.mem_cons.mp hx with rfl | hx
    · exact mset_eq
    · rw [mset_ne (hK.fr hh x hx)]; exact hK.1 x hx
  · rw [List.map_cons, List.nodup_cons]
    refine ⟨fun z => ?_, hK.2⟩
    obtain ⟨x, hx, e⟩ := List.mem_map.mp z
    exact hK.fr hh x hx e
theorem Kn.put {M : Mem} {L : List (Nat × Cel)} {m : Nat} {c c' : Cel} (hK : Kn M ((m, c) :: L)) : Kn (mset M m c') ((m, c') :: L) := by
  have hn := hK.2
  rw [List.map_cons, List.nodup_cons] at hn
  refine ⟨fun x hx => ?_, hK.2⟩
  rcases List.mem_cons.mp hx with rfl | hx
  · exact mset_eq
  · rw [mset_ne (fun z => hn.1 (List.mem_map.mpr ⟨x, hx, z⟩))]; exact hK.1 x (List.mem_cons_of_mem _ hx)
theorem Kn.perm {M : Mem} {L L' : List (Nat × Cel)} (hK : Kn M L) (hp : L.Perm L') : Kn M L' := ⟨fun x hx => hK.1 x (hp.mem_iff.mpr hx), (hp.map _).nodup_iff.mp hK.2⟩
theorem Kn.swap {M : Mem} {x y : Nat × Cel} {L : List (Nat × Cel)} (hK : Kn M (x :: y :: L)) : Kn M (y :: x :: L) := hK.perm (List.Perm.swap y x L)
theorem Kn.bring {M : Mem} {y : Nat × Cel} {A L : List (Nat × Cel)} (hK : Kn M (A ++ y :: L)) : Kn M (y :: (A ++ L)) := hK.perm List.perm_middle
/-- the cells of arrays made -/
def aC (La : List (Nat × Nat × Nat × Nat)) : List (Nat × Cel) := La.map (fun q => (q.2.1, (q.2.2.1, q.2.2.2, fun _ => defaultValue (tyA q.2.2.1))))
theorem Kn.ofOI {M M0 : Mem} {h ci n : Nat} {Dv : Nat → Value} {c0 : Cel} {La : List (Nat × Nat × Nat × Nat)} {L : List (Nat × Cel)} (hK : Kn M0 ((h, c0) :: L)) (hI : OI M M0 h ci n Dv La) : Kn M ((h, (ci, n, fO Dv La)) :: (aC La ++ L)) := by
  have hn := hK.2
  rw [List.map_cons, List.nodup_cons] at hn
  have hL : ∀ x ∈ L, M x.1 = some x.2 := fun x hx => hI.2.2.2.1 x.1 x.2 (hK.1 x (List.mem_cons_of_mem _ hx)) (fun z => hn.1 (List.mem_map.mpr ⟨x, hx, z⟩))
  have hmap : (aC La).map (fun x => x.1) = La.map (fun q => q.2.1) := by unfold aC; rw [List.map_map]; rfl
  refine ⟨fun x hx => ?_, ?_⟩
  · rcases List.mem_cons.mp hx with rfl | hx
    · exact hI.1
    · rcases List.mem_append.mp hx with hx | hx
      · obtain ⟨q, hq, rfl⟩ := List.mem_map.mp hx
        exact (hI.2.1 q hq).1
      · exact hL x hx
  · rw [List.map_cons, List.map_append, hmap, List.nodup_cons, List.nodup_append]
    refine ⟨fun z => ?_, hI.2.2.1, hn.2, fun a ha b hb e => ?_⟩
    · rcases List.mem_append.mp z with z | z
      · exact hI.nm z
      · exact hn.1 z
    · obtain ⟨q, hq, e1⟩ := List.mem_map.mp ha
      obtain ⟨x, hx, e2⟩ := List.mem_map.mp hb
      have g1 := (hI.2.1 q hq).2
      have g2 := hK.1 x (List.mem_cons_of_mem _ hx)
      have e3 : q.2.1 = x.1 := (show q.2.1 = a from e1).trans (e.trans (show b = x.1 from e2.symm))
      rw [e3, g2] at g1
      cases g1
/-- rows of rows -/
def rC (h n k0 : Nat) : List (Nat × Cel) := (List.range n).map (fun j => (h + 1 + j, (100, k0, fun _ => .int 0)))
theorem Kn.rows {M : Mem} {L : List (Nat × Cel)} {h n k0 : Nat} (hK : Kn M L) (hh : ∀ j, j ≤ n → M (h + j) = none) : Kn (mrow M h n k0) ((h, (105, n, fun j => .ref (h + 1 + j))) :: (rC h n k0 ++ L)) := by
  have hout : ∀ x ∈ L, ¬ (x.1 = h) ∧ ¬ (h < x.1 ∧ x.1 ≤ h + n) := fun x hx => by
    have h1 := hK.1 x hx
    refine ⟨fun z => ?_, fun z => ?_⟩
    · have := hh 0 (Nat.zero_le _)
      rw [Nat.add_zero, ← z, h1] at this; cases this
    · have := hh (x.1 - h) (by omega)
      rw [show h + (x.1 - h) = x.1 by omega, h1] at this; cases this
  have hmap : (rC h n k0).map (fun x => x.1) = (List.range n).map (fun j => h + 1 + j) := by unfold rC; rw [List.map_map]; rfl
  refine ⟨fun x hx => ?_, ?_⟩
  · unfold mrow
    rcases List.mem_cons.mp hx with rfl | hx
    · exact if_pos rfl
    · rcases List.mem_append.mp hx with hx | hx
      · obtain ⟨j, hj, rfl⟩ := List.mem_map.mp hx
        have hj2 := List.mem_range.mp hj
        show (if h + 1 + j = h then _ else if h < h + 1 + j ∧ h + 1 + j ≤ h + n then _ else _) = _
        rw [if_neg (by omega), if_pos (by omega)]
      · obtain ⟨o1, o2⟩ := hout x hx
        rw [if_neg o1, if_neg o2]; exact hK.1 x hx
  · rw [List.map_cons, List.map_append, hmap, List.nodup_cons, List.nodup_append]
    refine ⟨fun z => ?_, ?_, hK.2, fun a ha b hb e => ?_⟩
    · rcases List.mem_append.mp z with z | z
      · obtain ⟨j, -, e⟩ := List.mem_map.mp z
        omega
      · obtain ⟨x, hx, e⟩ := List.mem_map.mp z
        exact (hout x hx).1 e
    · exact List.pairwise_map.mpr (List.Pairwise.imp (fun hne e => hne (by omega)) (List.nodup_range (n := n)))
    · obtain ⟨j, hj, e1⟩ := List.mem_map.mp ha
      obtain ⟨x, hx, e2⟩ := List.mem_map.mp hb
      have hj2 := List.mem_range.mp hj
      have e3 : h + 1 + j = x.1 := (show h + 1 + j = a from e1).trans (e.trans (show b = x.1 from e2.symm))
      exact (hout x hx).2 (by omega)
section KNX
variable {G : Gam} {d : Nat} {k : Nat × Nat} {Y : MR} {M : Mem} {lv : Lv} {st : List Value} {pc : Nat} {Q : Option Value → Mem → Prop}
theorem x_abs {L : List (Nat × Cel)} (hK : Kn M L) (kk : ∀ M' : Mem, Kn M' L → XJ G d k Y M' lv st pc Q) : XJ G d k Y M lv st pc Q := kk M hK
end KNX
