/-! the class, 14: a list takes one more -/
theorem fL_2' {m n n' : Int32} {e j : Nat} (h : j < 3) : updV (fL m e n) 2 (.int n') j = fL m e n' j := by
  rcases j with _ | _ | _ | j
  · exact updV_ne (by decide)
  · exact updV_ne (by decide)
  · exact updV_eq
  · omega
def AddR (M M' : Mem) (l e n v : Nat) (w : Nat → Nat) : Prop := ∃ (m' : Int32) (e' N' : Nat) (g' fl : Nat → Value), M' l = some (0, 3, fl) ∧ (∀ j, j < 3 → fl j = fL m' e' (nI (n + 1)) j) ∧ M' e' = some (106, N', g') ∧ n + 1 ≤ N' ∧ 10 ≤ N' ∧ N' ≤ 400 ∧ (∀ i, i < n → g' i = .ref (w i)) ∧ g' n = .ref v ∧ ((e' = e ∧ M e ≠ none) ∨ M e' = none) ∧ ∀ q, ¬ q = l → ¬ q = e' → M' q = M q
theorem OldE.lt {G : Gam} {e : Nat} (h : OldE G e) : e < G.2.1.heap.size := by
  obtain ⟨⟨cell, h1, -⟩, -⟩ := h
  exact (Array.getElem?_eq_some_iff.mp h1).1
section XRL
variable {G : Gam} {d : Nat} {k : Nat × Nat} {Y : MR} {M M' : Mem} {lv : Lv} {st : List Value} {pc : Nat} {Q : Option Value → Mem → Prop}
/-- cells lie past what stood at the start -/
theorem x_rel (kk : (∀ a c, M a = some c → G.2.1.heap.size ≤ a) → XJ G d k Y M lv st pc Q) : XJ G d k Y M lv st pc Q := by
  intro p e R s m args below meth c H locs cells slots A ls hC hH hl
  exact kk (fun a c0 h0 => (hH.1 a c0 h0).1) p e R s m args below meth c H locs cells slots A ls hC hH hl
end XRL
section ADD
variable {G : Gam} {d : Nat} {M : Mem} {Q : Option Value → Mem → Prop}
theorem c_add_3 {l e n N mi ci v sz : Nat} {m : Int32} {q : vw_C} {w : Nat → Nat} {fv : Nat → Value} (hZ : ZMir G mi) (hl : M l = some (0, 3, fL m e (nI n))) (hR : RowD G M e n N ci w) (hn : n ≤ 266) (hcl : vwCl[ci]? = some q) (hca : Cond.castable q.1 "java/lang/Object" ∈ lw_tbl) (hv : M v = some (ci, sz, fv)) (hvl : v ≠ l) (hq : ∀ M', AddR M M' l e n v w → Q none M') : CT G (d + 5) (1, 400) MJx4a65c_add_72be8 [.ref l, .ref v, .ref e, .int (nI n)] M Q := by
  have hci : ci < 14 := (List.getElem?_eq_some_iff.mp hcl).1
  have hcln : (nI n).toNatClampNeg = n := nI_clamp (by omega)
  have H : ∀ (M1 : Mem) (e1 N1 : Nat) (g1 : Nat → Value) (k : Nat × Nat), M1 l = some (0, 3, fL m e1 (nI n)) → M1 e1 = some (106, N1, g1) → n < N1 → 10 ≤ N1 → N1 ≤ 400 → (∀ i, i < n → g1 i = .ref (w i)) → ((e1 = e ∧ M e ≠ none) ∨ M e1 = none) → (∀ q, ¬ q = l → ¬ q = e1 → M1 q = M q) → M1 v = some (ci, sz, fv) → XJ G (d + 5) k MJx4a65c_add_72be8 M1 [(0, .ref l), (1, .ref v), (2, .ref e1), (3, .int (nI n))] [] 11 Q := by
    intro M1 e1 N1 g1 k hl1 he1 hN1 h10 h400 hg1 hee hfr hv1
    have hle : l ≠ e1 := fun z => by
      rw [z, he1] at hl1
      have h0 : (106 : Nat) = 0 := congrArg (fun c : Cel => c.1) (Option.some.inj hl1)
      omega
    refine x_aload_n dJx4a65c_add_72be8_11 rfl rfl ?_
    refine x_iload_n dJx4a65c_add_72be8_12 rfl rfl ?_
    refine x_aload_n dJx4a65c_add_72be8_13 rfl rfl ?_
    refine x_aastore dJx4a65c_add_72be8_14 he1 hv1 hcl hca (vp_in_nI hN1 (by omega)) ?_
    rw [hcln]
    refine x_aload_n dJx4a65c_add_72be8_15 rfl rfl ?_
    refine x_iload_n dJx4a65c_add_72be8_16 rfl rfl ?_
    refine x_iconst (v := 1) dJx4a65c_add_72be8_17 (by decide) ?_
    refine x_iadd dJx4a65c_add_72be8_18 ?_
    rw [nI_1]
    refine x_putf dJx4a65c_add_72be8_19 lp_Jx4a65c_48 (by rw [mset_ne hle]; exact hl1) rfl rfl ?_
    exact x_return dJx4a65c_add_72be8_22 rfl (hq _ ⟨m, e1, N1, _, _, mset_eq, fun j hj => fL_2' hj, by rw [mset_ne (Ne.symm hle)]; exact mset_eq, hN1, h10, h400, fun i hi => by rw [updV_ne (by omega)]; exact hg1 i hi, updV_eq, hee, fun q h1 h2 => by rw [mset_ne h1, mset_ne h2]; exact hfr q h1 h2⟩)
  have hgrow : ∀ (h N' : Nat) (g' : Nat → Value) (k : Nat × Nat), M h = none → n < N' → 10 ≤ N' → N' ≤ 400 → (∀ i, i < n → g' i = .ref (w i)) → XJ G (d + 5) k MJx4a65c_add_72be8 (mset (mset M h (106, N', g')) l (0, 3, fL m h (nI n))) [(0, .ref l), (1, .ref v), (2, .ref h), (3, .int (nI n))] [] 11 Q := by
    intro h N' g' k h1 h2 h3 h4 h5
    have hlh : h ≠ l := fun z => by rw [z, hl] at h1; cases h1
    have hvh : v ≠ h := fun z => by rw [z, h1] at hv; cases hv
    refine H _ h N' g' k mset_eq (by rw [mset_ne hlh]; exact mset_eq) h2 h3 h4 h5 (Or.inr h1) (fun q a b => by rw [mset_ne a, mset_ne b]) ?_
    rw [mset_ne hvl, mset_ne hvh]; exact hv
  refine CT.of rfl (Nat.le_of_ble_eq_true rfl) ?_
  obtain ⟨hex, ⟨hn0, hN0, hE⟩ | ⟨g, hMe, hnN, h10, h400, hg⟩⟩ := id hR
  · subst hn0
    subst hN0
    refine x_iload_n dJx4a65c_add_72be8_0 rfl rfl ?_
    refine x_aload_n dJx4a65c_add_72be8_1 rfl rfl ?_
    refine x_olen dJx4a65c_add_72be8_2 hE.1 rfl ?_
    refine x_icmp_ne (tgt := 11) dJx4a65c_add_72be8_3 (by decide) (fun z => absurd (by decide) z) (fun _ => ?_)
    refine x_aload_n dJx4a65c_add_72be8_6 rfl rfl ?_
    refine x_rV0 dJx4a65c_add_72be8_7 lv_Jx4a65c_129 hl rfl rfl rfl ⟨Nat.le_refl _, Nat.le_refl _⟩ (c_grow hZ hl hR hn hcl hca ?_)
    intro h N' g' h1 h2 h3 h4 h5
    refine x_astore_n dJx4a65c_add_72be8_10 rfl (by decide) ?_
    refine x_loc _ (?_ : lle _ _) (hgrow h N' g' _ h1 h2 h3 h4 h5)
    exact ⟨rfl, rfl, rfl, rfl, trivial⟩
  · by_cases e0 : n = N
    · subst e0
      refine x_iload_n dJx4a65c_add_72be8_0 rfl rfl ?_
      refine x_aload_n dJx4a65c_add_72be8_1 rfl rfl ?_
      refine x_alen dJx4a65c_add_72be8_2 (by decide) (by decide) hMe ?_
      refine x_icmp_ne (tgt := 11) dJx4a65c_add_72be8_3 (by decide) (fun z => absurd rfl z) (fun _ => ?_)
      refine x_aload_n dJx4a65c_add_72be8_6 rfl rfl ?_
      refine x_rV0 dJx4a65c_add_72be8_7 lv_Jx4a65c_129 hl rfl rfl rfl ⟨Nat.le_refl _, Nat.le_refl _⟩ (c_grow hZ hl hR hn hcl hca ?_)
      intro h N' g' h1 h2 h3 h4 h5
      refine x_astore_n dJx4a65c_add_72be8_10 rfl (by decide) ?_
      refine x_loc _ (?_ : lle _ _) (hgrow h N' g' _ h1 h2 h3 h4 h5)
      exact ⟨rfl, rfl, rfl, rfl, trivial⟩
    · refine x_iload_n dJx4a65c_add_72be8_0 rfl rfl ?_
      refine x_aload_n dJx4a65c_add_72be8_1 rfl rfl ?_
      refine x_alen dJx4a65c_add_72be8_2 (by decide) (by decide) hMe ?_
      refine x_icmp_ne (tgt := 11) dJx4a65c_add_72be8_3 (by decide) (fun _ => ?_) (fun z => absurd z (fun z => e0 (by have := congrArg Int32.toInt z; rw [nI_toInt (by omega), nI_toInt (by omega)] at this; omega)))
      refine x_loc _ (?_ : lle _ _) (H M e N g _ hl hMe (by omega) h10 h400 hg (Or.inl ⟨rfl, by rw [hMe]; exact fun z => by cases z⟩) (fun _ _ _ => rfl) hv)
      exact ⟨rfl, rfl, rfl, rfl, trivial⟩
theorem c_add {l e n N mi ci v sz : Nat} {m : Int32} {q : vw_C} {w : Nat → Nat} {fv : Nat → Value} (hZ : ZMir G mi) (hl : M l = some (0, 3, fL m e (nI n))) (hR : RowD G M e n N ci w) (hn : n ≤ 266) (hcl : vwCl[ci]? = some q) (hca : Cond.castable q.1 "java/lang/Object" ∈ lw_tbl) (hv : M v = some (ci, sz, fv)) (hvl : v ≠ l) (hwl : ∀ i, i < n → w i ≠ l) (hq : ∀ M', AddR M M' l e n v w → Q (some (.int 1)) M') : CT G (d + 6) (1, 400) MJx4a65c_add_9ea2d [.ref l, .ref v] M Q := by
  refine CT.of rfl (Nat.le_of_ble_eq_true rfl) ?_
  refine x_rel (fun hge => ?_)
  have hel : e ≠ l := fun z => by
    obtain ⟨-, ⟨-, -, hE⟩ | ⟨g, hMe, -⟩⟩ := id hR
    · have h0 := hge l _ hl
      have h1 := hE.lt
      rw [z] at h1
      omega
    · rw [z, hl] at hMe
      have h0 : (0 : Nat) = 106 := congrArg (fun c : Cel => c.1) (Option.some.inj hMe)
      omega
  have hR1 : RowD G (mset M l (0, 3, fL (m + 1) e (nI n))) e n N ci w := by
    refine ⟨fun i hi => ?_, ?_⟩
    · rw [mset_ne (hwl i hi)]; exact hR.1 i hi
    · rw [mset_ne hel]; exact hR.2
  refine x_aload_n dJx4a65c_add_9ea2d_0 rfl rfl ?_
  refine x_dup dJx4a65c_add_9ea2d_1 rfl ?_
  refine x_getf dJx4a65c_add_9ea2d_2 lf_Jx4a65c_63 hl rfl ?_
  refine x_iconst (v := 1) dJx4a65c_add_9ea2d_5 (by decide) ?_
  refine x_iadd dJx4a65c_add_9ea2d_6 ?_
  refine x_putf dJx4a65c_add_9ea2d_7 lp_Jx4a65c_63 hl rfl rfl ?_
  rw [fL_0]
  refine x_aload_n dJx4a65c_add_9ea2d_10 rfl rfl ?_
  refine x_aload_n dJx4a65c_add_9ea2d_11 rfl rfl ?_
  refine x_aload_n dJx4a65c_add_9ea2d_12 rfl rfl ?_
  refine x_getf dJx4a65c_add_9ea2d_13 lf_Jx4a65c_9 mset_eq rfl ?_
  refine x_aload_n dJx4a65c_add_9ea2d_16 rfl rfl ?_
  refine x_getf dJx4a65c_add_9ea2d_17 lf_Jx4a65c_48 mset_eq rfl ?_
  refine x_rV3 dJx4a65c_add_9ea2d_20 lv_Jx4a65c_131 mset_eq rfl rfl rfl ⟨Nat.le_refl _, Nat.le_refl _⟩ (c_add_3 hZ mset_eq hR1 hn hcl hca (by rw [mset_ne hvl]; exact hv) hvl ?_)
  rintro M' ⟨m', e', N', g', fl, a1, a2, a3, a4, a5, a6, a7, a8, a9, a10⟩
  refine x_iconst (v := 1) dJx4a65c_add_9ea2d_23 (by decide) ?_
  exact x_ireturn dJx4a65c_add_9ea2d_24 rfl rfl (hq M' ⟨m', e', N', g', fl, a1, a2, a3, a4, a5, a6, a7, a8, by
rcases a9 with ⟨b1, b2⟩ | b
· exact Or.inl ⟨b1, by rw [mset_ne hel] at b2; exact b2⟩
· refine Or.inr ?_
  by_cases z : e' = l
  · rw [z, mset_eq] at b; cases b
  · rw [mset_ne z] at b; exact b, fun q h1 h2 => (a10 q h1 h2).trans (mset_ne h1)⟩)
end ADD
