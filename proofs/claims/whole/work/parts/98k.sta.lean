/-! the law, 5: its start; what holds of a new house -/
theorem mset_un {M : Mem} {a : Nat} {c : Cel} : mset M a c = mun (mset (fun _ => none) a c) M := by
  funext b
  unfold mun
  by_cases e : b = a
  · rw [e, mset_eq, mset_eq]
  · rw [mset_ne e, mset_ne e]
theorem Dj_new {M : Mem} {a : Nat} {c : Cel} (h : M a = none) : Dj (mset (fun _ => none) a c) M := fun b c' hb => by
  by_cases e : b = a
  · rw [e, h] at hb; cases hb
  · exact mset_ne e
theorem mset_one0 {o : Nat} {f : Nat → Value} : mset (fun _ => none) o (104, 1, f) = one o f := by
  funext b
  by_cases e : b = o
  · rw [e, mset_eq, one_o]
  · rw [mset_ne e]; unfold one; rw [if_neg e]
theorem Dj_one {M : Mem} {o : Nat} {f : Nat → Value} (h : M o = none) : Dj (one o f) M := fun a c hc => by
  unfold one
  by_cases e : a = o
  · rw [e, h] at hc; cases hc
  · exact if_neg e
theorem s00_1 {k : Nat} (h : k ≠ 26) : s00.1 k = 0 := by
  show (bif Nat.beq k 26 then nI 18 else 0) = 0
  rw [beq_f h]; rfl
theorem Bn_00 {G : Gam} {τ : Nat → Nat} {ω : Nat → Nat → Nat} {ε : Nat → Nat} {Md : Mem} (hi : adOK τ) (hD : Dyn G τ ω ε s00 Md) : Bn G τ ω ε s00 k00 Md := by
  have hc : Cnt s00 := fun q hq => by
    have h2 : q.1 ≠ 26 := (by decide : ∀ q ∈ mBnd, q.1 ≠ 26) q hq
    unfold Bnd
    rw [cn_00 h2, s00_1 h2]
    exact ⟨rfl, Nat.zero_le _⟩
  have z : ∀ {k : Nat} {P : Nat → Prop}, k ≠ 26 → ∀ i, i < cn s00 k → P i := fun hk i hi => by rw [cn_00 hk] at hi; exact absurd hi (Nat.not_lt_zero i)
  refine ⟨⟨hi, hc, hD, ⟨rfl, rfl, z (by decide), ⟨rfl, rfl, z (by decide), z (by decide)⟩, fun p s hp hs => rfl⟩⟩, ⟨⟨z (by decide), z (by decide), z (by decide), z (by decide), z (by decide)⟩, ⟨z (by decide), z (by decide), z (by decide)⟩, z (by decide), z (by decide), fun i => by rfl, z (by decide), fun k hk => (by decide : (0 : Int32) ≤ 0 ∧ (0 : Int32) ≤ 9999), z (by decide)⟩, ?_, fun c hc => (by decide : (-1000000 : Int32) ≤ 0 ∧ (0 : Int32) ≤ 1000000)⟩
  refine ⟨(fun _ => 0, fun _ => 0, -1), rfl, ?_⟩
  have e60 : cn s00 60 = 0 := cn_00 (by decide)
  rw [e60, tryT_0, cI_f (by rw [s00_1 (by decide)]; decide)]
  refine ⟨fun i hi => absurd hi (Nat.not_lt_zero i), rfl, fun _ i hi => ?_⟩
  rw [e60] at hi
  exact absurd hi (Nat.not_lt_zero i)
section STA
variable {G : Gam} {b e L : Nat} {xs : Nat → Int32} {Q : Option Value → Mem → Prop}
theorem La_start (hG : GOK G) (hE : OldE G e) (hz : ZCom G) (hl : Lit G RX11 63 pLetters) (hT : OldT G .int b L (fun j => .int (xs j))) (hL : L ≤ 3584) (hq : ∀ M', Q (some (.int 1)) M') : XJ G 101 (601024, 7293034) ML_law (fun _ => none) [(0, .ref b)] [] 0 Q := by
  refine x_new (ci := 12) dL_law_0 rfl tb32 ⟨by decide, by decide⟩ (fun h hn => ?_)
  refine x_dup dL_law_3 rfl ?_
  refine x_rI0 (mc := 41) (ms := 2258) (b := h) dL_law_4 li_L_15 rfl rfl ⟨by decide, by decide⟩ (c_X11_init mset_eq hE hz hl (fun τ Md hi h0 hD => ?_))
  subst h0
  refine x_astore_n dL_law_7 rfl (by decide) ?_
  refine x_loc [(0, .ref b), (1, .ref (τ 0))] ⟨rfl, rfl, trivial⟩ ?_
  refine x_new (ci := 13) dL_law_8 rfl tb1182 ⟨by decide, by decide⟩ (fun h2 hn2 => ?_)
  refine x_dup dL_law_11 rfl ?_
  rw [mset_un]
  refine x_rI0 (mc := 41) (ms := 7036) (b := h2) dL_law_12 li_L_18 rfl rfl ⟨by decide, by decide⟩ (CT.frame (Q1 := fun r M' => r = none ∧ ∃ ad, adOK ad ∧ ad 99 = h2 ∧ M' = mm ad s00) (c_X12_init mset_eq (fun ad hA h9 => ⟨rfl, ad, hA, h9, rfl⟩)) (Dj_new hn2) (fun r M' hr hj => ?_))
  obtain ⟨rfl, ad, hA, rfl, rfl⟩ := hr
  rw [mun_cm hj]
  refine x_astore_n dL_law_15 rfl (by decide) ?_
  refine x_loc [(0, .ref b), (1, .ref (τ 0)), (2, .ref (ad 99))] ⟨rfl, rfl, rfl, trivial⟩ ?_
  refine x_iconst (v := 1) dL_law_16 (by decide) ?_
  refine x_newa (ci := 104) (N := 1) dL_law_17 rfl (by decide) (by decide) tb1750 (by decide) rfl (by decide) ⟨by decide, by decide⟩ (fun o hn3 => ?_)
  have o1 : cm τ k00 Md o = none := by
    cases e : cm τ k00 Md o with
    | none => rfl
    | some c => rw [mun_l e] at hn3; cases hn3
  have o2 : mm ad s00 o = none := by rw [mun_r o1] at hn3; exact hn3
  rw [mset_mun o1, mset_un (M := mm ad s00), mset_one0, mun_cm (Dj_one o2)]
  refine x_astore_n dL_law_19 rfl (by decide) ?_
  refine x_iconst (v := 0) dL_law_20 (by decide) ?_
  refine x_istore dL_law_21 (by decide) ?_
  refine x_loc (lvL b (τ 0) (ad 99) o 0) ⟨rfl, rfl, rfl, rfl, rfl, trivial⟩ ?_
  refine x_room (k1 := (3 * 512, 810 * 512)) (by decide) (by decide) ?_
  refine La_loop hG hA hT hL hq 512 0 _ (by omega) (by decide) ⟨s00, k00, _, _, Md, _, rfl, Bn_00 hi hD, Dj.un hj.sym (Dj_one o1).sym, (Dj_one o2).sym⟩
end STA
