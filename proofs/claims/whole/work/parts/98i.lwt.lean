/-! the law, 3: told; the loop -/
theorem mset_mun {M1 M2 : Mem} {a : Nat} {c : Cel} (h : M1 a = none) : mset (mun M1 M2) a c = mun M1 (mset M2 a c) := by
  funext b
  by_cases e : b = a
  · rw [e, mset_eq, mun_r h, mset_eq]
  · rw [mset_ne e]
    unfold mun
    rw [mset_ne e]
theorem mset_one {o : Nat} {f f' : Nat → Value} : mset (one o f) o (104, 1, f') = one o f' := by
  funext b
  by_cases e : b = o
  · rw [e, mset_eq, one_o]
  · rw [mset_ne e]; unfold one; rw [if_neg e, if_neg e]
section LWT
variable {G : Gam} {τ ad : Nat → Nat} {ω : Nat → Nat → Nat} {ε : Nat → Nat} {σ σ' κ : MS} {Md : Mem} {b o i g L d : Nat} {k : Nat × Nat} {xs : Nat → Int32} {M : Mem} {Q : Option Value → Mem → Prop} {Y : MR} {av : List Value} {f f' : Nat → Value}
theorem L3_set (h : D3 τ ad κ σ Md o f) : mset (L3 τ ad κ σ Md o f) o (104, 1, f') = L3 τ ad κ σ Md o f' := by
  have h1 : cm τ κ Md o = none := h.1 o _ (mun_d h.2 one_o)
  have h2 : mm ad σ o = none := h.2 o _ one_o
  unfold L3
  rw [mset_mun h1, mset_mun h2, mset_one]
theorem D3_f (h : D3 τ ad κ σ Md o f) : D3 τ ad κ σ Md o f' := by
  have hd : ∀ M1 : Mem, Dj M1 (one o f) → Dj M1 (one o f') := fun M1 z a c hc => by
    unfold one at hc
    by_cases e : a = o
    · rw [e]; exact z o _ one_o
    · rw [if_neg e] at hc; cases hc
  exact ⟨Dj.un h.1.l (hd _ h.1.r), hd _ h.2⟩
theorem L_cq {P : Option Value → MS → Prop} (hc : CT G d k Y av (mm ad σ) (fun r M' => ∃ σ', M' = mm ad σ' ∧ P r σ')) (hd : D3 τ ad κ σ Md o f) (hq : ∀ r σ', P r σ' → D3 τ ad κ σ' Md o f → Q r (L3 τ ad κ σ' Md o f)) : CT G d k Y av (L3 τ ad κ σ Md o f) Q := by
  rw [L3_sw hd]
  refine CT.frame hc (D3_sw hd) (fun r M' hr hj => ?_)
  obtain ⟨σ', rfl, hs⟩ := hr
  have hd' := D3_of hd hj
  rw [← L3_sw hd']
  exact hq r σ' hs hd'
theorem La_t2 {e : Int32} (hA : adOK ad) (hT : OldT G .int b L (fun j => .int (xs j))) (hL : L ≤ 3584) (hi7 : i + 7 ≤ L) (hB : Bn G τ ω ε σ κ Md) (hd : D3 τ ad κ σ Md o f) (he : (pTold σ (xs (i + 1)) (xs (i + 2)) ∧ e = 0 ∧ f 0 = .long (vTold σ (xs (i + 1)).toNatClampNeg (xs (i + 2))).toInt64) ∨ (¬ pTold σ (xs (i + 1)) (xs (i + 2)) ∧ e = 1)) (back : ∀ M', LwS G τ ad o M' → XJ G 101 k ML_law M' (lvL b (τ 0) (ad 99) o i) [] 2138 Q) : XJ G 101 k ML_law (L3 τ ad κ σ Md o f) (lvL b (τ 0) (ad 99) o i) [.int e] 398 Q := by
  refine x_istore dL_law_398 (by decide) ?_
  refine x_loc [(0, .ref b), (1, .ref (τ 0)), (2, .ref (ad 99)), (3, .ref o), (4, .int (nI i)), (5, .int e)] ⟨rfl, rfl, rfl, rfl, rfl, rfl, trivial⟩ ?_
  refine x_aload_n dL_law_400 rfl rfl ?_
  refine ldg (j := 1) dL_law_401 dL_law_402 dL_law_404 rfl dL_law_405 dL_law_406 rfl rfl hT (by omega) hL ?_
  refine ldg (j := 2) dL_law_407 dL_law_408 dL_law_410 rfl dL_law_411 dL_law_412 rfl rfl hT (by omega) hL ?_
  refine x_cV2 (b := ad 99) dL_law_413 lv_L_39 (L3_m hd) rfl rfl rfl (L_cq (P := fun r σ' => (pTold σ (xs (i + 1)) (xs (i + 2)) ∧ r = some (.int (vTold σ (xs (i + 1)).toNatClampNeg (xs (i + 2)))) ∧ σ' = seti σ 0 0) ∨ (¬ pTold σ (xs (i + 1)) (xs (i + 2)) ∧ r = some (.int 0) ∧ σ' = seti σ 0 1)) (c_X12_told hA hB.1.2.1 (fun hp => ⟨_, rfl, Or.inl ⟨hp, rfl, rfl⟩⟩) (fun hp => ⟨_, rfl, Or.inr ⟨hp, rfl, rfl⟩⟩)) hd (fun r σ' hr hd' => ?_))
  rcases hr with ⟨hp, rfl, rfl⟩ | ⟨hp, rfl, rfl⟩
  · rcases he with ⟨-, rfl, hf⟩ | ⟨hn, -⟩
    · refine x_istore dL_law_416 (by decide) ?_
      refine x_loc [(0, .ref b), (1, .ref (τ 0)), (2, .ref (ad 99)), (3, .ref o), (4, .int (nI i)), (5, .int 0), (6, .int (vTold σ (xs (i + 1)).toNatClampNeg (xs (i + 2))))] ⟨rfl, rfl, rfl, rfl, rfl, rfl, rfl, trivial⟩ ?_
      refine x_aload_n dL_law_418 rfl rfl ?_
      refine x_cV0 (b := ad 99) dL_law_419 lv_L_40 (L3_m hd') rfl rfl rfl (L_cq (P := fun r σ' => r = some (.int 0) ∧ σ' = seti σ 0 0) (c_X12_thrown ⟨_, rfl, by rw [seti_at], rfl⟩) hd' (fun r σ' hr hd2 => ?_))
      obtain ⟨rfl, rfl⟩ := hr
      refine x_iload dL_law_422 rfl ?_
      refine x_icmp_eq (tgt := 429) dL_law_424 (by decide) (fun _ => ?_) (fun h => absurd rfl h)
      refine x_iload dL_law_429 rfl ?_
      refine x_if_ne (tgt := 446) dL_law_431 (by decide) (fun h => absurd rfl h) (fun _ => ?_)
      refine x_aload_n dL_law_434 rfl rfl ?_
      refine x_iconst (v := 0) dL_law_435 (by decide) ?_
      refine x_laload dL_law_436 (L3_o hd2) (vp_in_nI (n := 0) (N := 1) (by decide) (by decide)) hf ?_
      refine x_iload dL_law_437 rfl ?_
      refine x_i2l dL_law_439 ?_
      refine x_lcmp dL_law_440 ?_
      refine x_if_eq (tgt := 446) dL_law_441 (by decide) (fun _ => ?_) (fun h => absurd ((lg_cmp_eq _ _).mpr rfl) h)
      refine x_goto (tgt := 2138) dL_law_446 (by decide) ?_
      refine x_loc (lvL b (τ 0) (ad 99) o i) ⟨rfl, rfl, rfl, rfl, rfl, trivial⟩ ?_
      exact back _ ⟨_, κ, ω, ε, Md, f, rfl, Bn_E Eqv_0 hB, hd2⟩
    · exact absurd hp hn
  · rcases he with ⟨hy, -, -⟩ | ⟨-, rfl⟩
    · exact absurd hy hp
    · refine x_istore dL_law_416 (by decide) ?_
      refine x_loc [(0, .ref b), (1, .ref (τ 0)), (2, .ref (ad 99)), (3, .ref o), (4, .int (nI i)), (5, .int 1)] ⟨rfl, rfl, rfl, rfl, rfl, rfl, trivial⟩ ?_
      refine x_aload_n dL_law_418 rfl rfl ?_
      refine x_cV0 (b := ad 99) dL_law_419 lv_L_40 (L3_m hd') rfl rfl rfl (L_cq (P := fun r σ' => r = some (.int 1) ∧ σ' = seti σ 0 1) (c_X12_thrown ⟨_, rfl, by rw [seti_at], rfl⟩) hd' (fun r σ' hr hd2 => ?_))
      obtain ⟨rfl, rfl⟩ := hr
      refine x_iload dL_law_422 rfl ?_
      refine x_icmp_eq (tgt := 429) dL_law_424 (by decide) (fun _ => ?_) (fun h => absurd rfl h)
      refine x_iload dL_law_429 rfl ?_
      refine x_if_ne (tgt := 446) dL_law_431 (by decide) (fun _ => ?_) (fun h => absurd h (by decide))
      refine x_goto (tgt := 2138) dL_law_446 (by decide) ?_
      refine x_loc (lvL b (τ 0) (ad 99) o i) ⟨rfl, rfl, rfl, rfl, rfl, trivial⟩ ?_
      exact back _ ⟨_, κ, ω, ε, Md, f, rfl, Bn_E Eqv_0 hB, hd2⟩
theorem La_told (hG : GOK G) (hA : adOK ad) (hT : OldT G .int b L (fun j => .int (xs j))) (hL : L ≤ 3584) (hi7 : i + 7 ≤ L) (hS : LwS G τ ad o M) (back : ∀ M', LwS G τ ad o M' → XJ G 101 (3 * g, 810 * g) ML_law M' (lvL b (τ 0) (ad 99) o i) [] 2138 Q) : XJ G 101 (3 * (g + 1), 810 * (g + 1)) ML_law M (lvL b (τ 0) (ad 99) o i) [] 381 Q := by
  obtain ⟨σ, κ, ω, ε, Md, f, rfl, hB, hd⟩ := hS
  obtain ⟨-, -, -, hTh, -⟩ := hG
  have hend : ∀ e f', D3 τ ad κ σ Md o f' → ((pTold σ (xs (i + 1)) (xs (i + 2)) ∧ e = 0 ∧ f' 0 = .long (vTold σ (xs (i + 1)).toNatClampNeg (xs (i + 2))).toInt64) ∨ (¬ pTold σ (xs (i + 1)) (xs (i + 2)) ∧ e = 1)) → XJ G 101 (3 * (g + 1) - 1, 810 * (g + 1) - 6) ML_law (L3 τ ad κ σ Md o f') (lvL b (τ 0) (ad 99) o i) [.int e] 398 Q := fun e f' hd' he =>
    La_t2 hA hT hL hi7 hB hd' he (fun M' hS' => x_room (k1 := (3 * g, 810 * g)) (by show 3 * g ≤ 3 * (g + 1) - 1; omega) (by show 810 * g ≤ 810 * (g + 1) - 6; omega) (back M' hS'))
  refine x_aload_n dL_law_381 rfl rfl ?_
  refine ldg (j := 1) dL_law_382 dL_law_383 dL_law_385 rfl dL_law_386 dL_law_387 rfl rfl hT (by omega) hL ?_
  refine ldg (j := 2) dL_law_388 dL_law_389 dL_law_391 rfl dL_law_392 dL_law_393 rfl rfl hT (by omega) hL ?_
  refine x_aload_n dL_law_394 rfl rfl ?_
  refine x_callSW (Y := ML_law) (idx := 34) (d := 100) (pc := 395) (Y2 := ML_told) (hh := hhT) (n := 4) (mc := 1) (ms := 6) (rest := []) [.ref (τ 0), .int (xs (i + 1)), .int (xs (i + 2)), .ref o] dL_law_395 tb1105 tb1106 tb0 tb1107 ⟨by decide, by decide⟩ (by decide +kernel) (by decide) rfl (by decide) ⟨by show 1 ≤ 3 * (g + 1); omega, by show 6 ≤ 810 * (g + 1); omega⟩ rfl ?_
  refine c_L_told (d := 99) (L3_o hd) (L3_x hB.1.1) (fun Q' QE' h1 h2 => ?_)
  refine CTX.frame (Q1 := fun r M' => pTold σ (xs (i + 1)) (xs (i + 2)) ∧ r = some (.int (vTold σ (xs (i + 1)).toNatClampNeg (xs (i + 2)))) ∧ M' = cm τ κ Md) (QE1 := fun M' => ¬ pTold σ (xs (i + 1)) (xs (i + 2)) ∧ M' = cm τ κ Md) (c_X11_told hB.1 hTh (fun hp => ⟨hp, rfl, rfl⟩) (fun hp => ⟨hp, rfl⟩)) hd.1 (fun r M' hr hj => ?_) (fun M' hr hj => ?_)
  · obtain ⟨hp, rfl, rfl⟩ := hr
    refine h1 _ _ ⟨f, L3_o hd, ?_⟩
    have e : mset (mun (cm τ κ Md) (mun (mm ad σ) (one o f))) o (104, 1, updV f 0 (.long (vTold σ (xs (i + 1)).toNatClampNeg (xs (i + 2))).toInt64)) = L3 τ ad κ σ Md o _ := L3_set hd
    rw [e]
    exact hend 0 _ (D3_f hd) (Or.inl ⟨hp, rfl, updV_eq⟩)
  · obtain ⟨hp, rfl⟩ := hr
    exact h2 _ (hend 1 f hd (Or.inr ⟨hp, rfl⟩))
end LWT
