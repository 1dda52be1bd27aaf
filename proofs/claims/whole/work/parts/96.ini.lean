/-! objects that make their arrays -/
theorem tb88 : (Cond.arrayClass FieldType.char) ∈ lw_tbl := tb_r (List.mem_of_getElem? (i := 88) (by decide +kernel))
theorem tb166 : (Cond.arrayClass FieldType.byte) ∈ lw_tbl := tb_r (List.mem_of_getElem? (i := 166) (by decide +kernel))
theorem tb1387 : (Cond.arrayClass FieldType.boolean) ∈ lw_tbl := tb_r (List.mem_of_getElem? (i := 1387) (by decide +kernel))
theorem tb1750 : (Cond.arrayClass FieldType.long) ∈ lw_tbl := tb_r (List.mem_of_getElem? (i := 1750) (by decide +kernel))
/-- fields that hold arrays: field, address, kind, length -/
def fO (D : Nat → Value) : List (Nat × Nat × Nat × Nat) → Nat → Value
  | [], j => D j
  | (k, a, _) :: t, j => bif Nat.beq j k then .ref a else fO D t j
theorem updV_fO {D : Nat → Value} {L : List (Nat × Nat × Nat × Nat)} {k a c N : Nat} : updV (fO D L) k (.ref a) = fO D ((k, a, c, N) :: L) := by
  funext j
  show _ = (bif Nat.beq j k then _ else _)
  by_cases e : j = k
  · subst e; rw [updV_eq, Nat.beq_refl]; rfl
  · rw [updV_ne e, beq_f e]; rfl
theorem updV_fO2 {D : Nat → Value} {k : Nat} {v : Value} : ∀ {L : List (Nat × Nat × Nat × Nat)}, (∀ q ∈ L, q.1 ≠ k) → updV (fO D L) k v = fO (updV D k v) L
  | [], _ => rfl
  | (k0, a, r) :: t, h => by
    have ih := updV_fO2 (D := D) (v := v) (L := t) (fun q hq => h q (List.mem_cons_of_mem _ hq))
    have hk : k0 ≠ k := h _ List.mem_cons_self
    funext j
    show _ = (bif Nat.beq j k0 then _ else fO (updV D k v) t j)
    rw [← ih]
    by_cases e : j = k
    · subst e
      rw [updV_eq, beq_f (Ne.symm hk)]
      show _ = updV _ j v j
      rw [updV_eq]
    · rw [updV_ne e]
      show (bif Nat.beq j k0 then _ else fO D t j) = _
      rw [updV_ne e]
theorem fO_no {D : Nat → Value} {j : Nat} : ∀ {L : List (Nat × Nat × Nat × Nat)}, (∀ q ∈ L, q.1 ≠ j) → fO D L j = D j
  | [], _ => rfl
  | (k0, a, r) :: t, h => by
    show (bif Nat.beq j k0 then _ else fO D t j) = _
    rw [beq_f (Ne.symm (h _ List.mem_cons_self))]
    exact fO_no (L := t) (fun q hq => h q (List.mem_cons_of_mem _ hq))
theorem fO_at {D : Nat → Value} : ∀ {L : List (Nat × Nat × Nat × Nat)}, (L.map (fun q => q.1)).Nodup → ∀ q ∈ L, fO D L q.1 = .ref q.2.1
  | [], _, _, h => by cases h
  | (k0, a, r) :: t, hn, q, h => by
    rw [List.map_cons, List.nodup_cons] at hn
    rcases List.mem_cons.mp h with rfl | h
    · show (bif Nat.beq k0 k0 then _ else _) = _
      rw [Nat.beq_refl]; rfl
    · show (bif Nat.beq q.1 k0 then _ else fO D t q.1) = _
      rw [beq_f (fun z => hn.1 (List.mem_map.mpr ⟨q, h, z⟩))]
      exact fO_at hn.2 q h
def OI (M M0 : Mem) (m ci n : Nat) (D : Nat → Value) (L : List (Nat × Nat × Nat × Nat)) : Prop :=
  M m = some (ci, n, fO D L) ∧ (∀ q ∈ L, M q.2.1 = some (q.2.2.1, q.2.2.2, fun _ => defaultValue (tyA q.2.2.1)) ∧ M0 q.2.1 = none) ∧ (L.map (fun q => q.2.1)).Nodup ∧ (∀ a c, M0 a = some c → a ≠ m → M a = some c) ∧ M0 m ≠ none
theorem OI.nm {M M0 : Mem} {m ci n : Nat} {D : Nat → Value} {L : List (Nat × Nat × Nat × Nat)} (h : OI M M0 m ci n D L) : m ∉ L.map (fun q => q.2.1) := fun z => by
  obtain ⟨q, hq, e⟩ := List.mem_map.mp z
  have := (h.2.1 q hq).2
  rw [e] at this
  exact h.2.2.2.2 this
theorem OI.ini {M0 : Mem} {m ci n : Nat} {D : Nat → Value} (h : M0 m = some (ci, n, D)) : OI M0 M0 m ci n D [] := ⟨h, fun q hq => (by cases hq), List.nodup_nil, fun a c h _ => h, by rw [h]; exact fun z => by cases z⟩
section INI
variable {G : Gam} {d : Nat} {Y : MR} {M M0 : Mem} {lv : Lv} {st : List Value} {pc : Nat} {Q : Option Value → Mem → Prop} {m co n : Nat} {D : Nat → Value} {L : List (Nat × Nat × Nat × Nat)}
theorem x_mk {at0 : ArrayType} {kc ks ci N kf : Nat} {i : Int32} (hI : OI M M0 m co n D L) (hd : decode Y.2.1 pc = .ok (.newarray at0, 2)) (hty : newarray.typeOf at0 = tyA ci) (h1 : 100 ≤ ci) (h2 : ci < 105) (hw : Cond.arrayClass (newarray.typeOf at0) ∈ lw_tbl) (hn : ¬ i < 0) (hN : i.toNatClampNeg = N) (hb : N ≤ 60000)
    (hput : ∀ (M1 : Mem) (f : Nat → Value) (h : Nat), M1 m = some (co, n, f) → XJ G d (kc, ks) Y (mset M1 m (co, n, updV f kf (.ref h))) lv st (pc + 2 + 3) Q → XJ G d (kc, ks) Y M1 lv (.ref h :: .ref m :: st) (pc + 2) Q)
    (kk : ∀ (M' : Mem) (h : Nat), OI M' M0 m co n D ((kf, h, ci, N) :: L) → XJ G d (kc, ks) Y M' lv st (pc + 2 + 3) Q) : XJ G d (kc + 1, ks + N) Y M lv (.int i :: .ref m :: st) pc Q := by
  refine x_newa hd hty h1 h2 hw hn hN hb ⟨Nat.le_add_left 1 kc, Nat.le_add_left N ks⟩ (fun h hh => ?_)
  refine x_room (k1 := (kc, ks)) (by show kc ≤ kc + 1 - 1; omega) (by show ks ≤ ks + N - N; omega) ?_
  have hm : h ≠ m := fun z => by rw [z, hI.1] at hh; cases hh
  refine hput _ (fO D L) h (by rw [mset_ne (Ne.symm hm)]; exact hI.1) ?_
  rw [updV_fO (c := ci) (N := N)]
  refine kk _ h ⟨mset_eq, fun q hq => ?_, ?_, fun a c ha hne => ?_, hI.2.2.2.2⟩
  · rcases List.mem_cons.mp hq with rfl | hq
    · refine ⟨by rw [mset_ne hm]; exact mset_eq, ?_⟩
      cases e : M0 h with
      | none => rfl
      | some c =>
        have := hI.2.2.2.1 h c e hm
        rw [hh] at this; cases this
    · obtain ⟨g1, g2⟩ := hI.2.1 q hq
      refine ⟨?_, g2⟩
      rw [mset_ne (fun z => by rw [z] at g2; exact hI.2.2.2.2 g2), mset_ne (fun z => by rw [z, hh] at g1; cases g1)]
      exact g1
  · rw [List.map_cons, List.nodup_cons]
    refine ⟨fun z => ?_, hI.2.2.1⟩
    obtain ⟨q, hq, e⟩ := List.mem_map.mp z
    have g1 := (hI.2.1 q hq).1
    have e' : q.2.1 = h := e
    rw [e', hh] at g1; cases g1
  · have g := hI.2.2.2.1 a c ha hne
    rw [mset_ne hne, mset_ne (fun z => by rw [z, hh] at g; cases g)]
    exact g
/-- a field that holds an array made before -/
theorem OI.put {kf : Nat} {v : Value} (hI : OI M M0 m co n D L) (h : ∀ q ∈ L, q.1 ≠ kf) : OI (mset M m (co, n, updV (fO D L) kf v)) M0 m co n (updV D kf v) L := by
  refine ⟨by rw [mset_eq, updV_fO2 h], fun q hq => ?_, hI.2.2.1, fun a c ha hne => ?_, hI.2.2.2.2⟩
  · obtain ⟨g1, g2⟩ := hI.2.1 q hq
    exact ⟨by rw [mset_ne (fun z => by rw [z] at g2; exact hI.2.2.2.2 g2)]; exact g1, g2⟩
  · rw [mset_ne hne]; exact hI.2.2.2.1 a c ha hne
end INI
theorem maxL (L : List (Nat × Nat)) : ∃ B, ∀ q ∈ L, q.2 < B := by
  induction L with
  | nil => exact ⟨0, fun q hq => by cases hq⟩
  | cons x t ih =>
    obtain ⟨B, hB⟩ := ih
    refine ⟨B + x.2 + 1, fun q hq => ?_⟩
    rcases List.mem_cons.mp hq with rfl | hq
    · omega
    · have := hB q hq; omega
def lkL : List (Nat × Nat) → Nat → Option Nat
  | [], _ => none
  | (k, a) :: t, j => bif Nat.beq j k then some a else lkL t j
theorem lkL_some : ∀ {L : List (Nat × Nat)} {j a : Nat}, lkL L j = some a → (j, a) ∈ L
  | [], _, _, h => by cases h
  | (k, b) :: t, j, a, h => by
    unfold lkL at h
    cases e : Nat.beq j k with
    | true =>
      rw [e] at h
      cases h
      rw [Nat.eq_of_beq_eq_true e]
      exact List.mem_cons_self
    | false =>
      rw [e] at h
      exact List.mem_cons_of_mem _ (lkL_some h)
theorem lkL_at : ∀ {L : List (Nat × Nat)}, (L.map (fun q => q.1)).Nodup → ∀ q ∈ L, lkL L q.1 = some q.2
  | [], _, _, h => by cases h
  | (k, b) :: t, hn, q, h => by
    rw [List.map_cons, List.nodup_cons] at hn
    rcases List.mem_cons.mp h with rfl | h
    · show (bif Nat.beq k k then _ else _) = _
      rw [Nat.beq_refl]; rfl
    · show (bif Nat.beq q.1 k then _ else lkL t q.1) = _
      rw [beq_f (fun z => hn.1 (List.mem_map.mpr ⟨q, h, z⟩))]
      exact lkL_at hn.2 q h
theorem nod_2 : ∀ {L : List (Nat × Nat)}, (L.map (fun q => q.2)).Nodup → ∀ q ∈ L, ∀ r ∈ L, q.2 = r.2 → q = r
  | [], _, _, h, _, _, _ => by cases h
  | x :: t, hn, q, hq, r, hr, e => by
    rw [List.map_cons, List.nodup_cons] at hn
    rcases List.mem_cons.mp hq with eq | hq2
    · rcases List.mem_cons.mp hr with er | hr2
      · rw [eq, er]
      · exact absurd (show x.2 ∈ t.map (fun q => q.2) from List.mem_map.mpr ⟨r, hr2, by rw [← e, eq]⟩) hn.1
    · rcases List.mem_cons.mp hr with er | hr2
      · exact absurd (show x.2 ∈ t.map (fun q => q.2) from List.mem_map.mpr ⟨q, hq2, by rw [e, er]⟩) hn.1
      · exact nod_2 hn.2 q hq2 r hr2 e
/-- addresses for all numbers, apart -/
theorem padA (L : List (Nat × Nat)) (h1 : (L.map (fun q => q.1)).Nodup) (h2 : (L.map (fun q => q.2)).Nodup) : ∃ ad, adOK ad ∧ ∀ q ∈ L, ad q.1 = q.2 := by
  obtain ⟨B, hB⟩ := maxL L
  refine ⟨fun k => match lkL L k with
    | some a => a
    | none => B + k, fun i j _ _ e => ?_, fun q hq => ?_⟩
  · have e' : (match lkL L i with
      | some a => a
      | none => B + i) = (match lkL L j with
      | some a => a
      | none => B + j) := e
    cases ei : lkL L i with
    | some a =>
      have mi := lkL_some ei
      cases ej : lkL L j with
      | some b =>
        rw [ei, ej] at e'
        have mj := lkL_some ej
        exact congrArg (fun q : Nat × Nat => q.1) (nod_2 h2 _ mi _ mj e')
      | none =>
        rw [ei, ej] at e'
        have := hB _ mi
        have e2 : a = B + j := e'
        have h3 : a < B := this
        omega
    | none =>
      cases ej : lkL L j with
      | some b =>
        rw [ei, ej] at e'
        have := hB _ (lkL_some ej)
        have e2 : B + i = b := e'
        have h3 : b < B := this
        omega
      | none =>
        rw [ei, ej] at e'
        have e2 : B + i = B + j := e'
        omega
  · show (match lkL L q.1 with
      | some a => a
      | none => B + q.1) = q.2
    rw [lkL_at h1 q hq]
