/-! the model's methods, 13: bounds, the row of letters -/
/-- the first n letters stand at nought -/
def zL (σ : MS) (n : Nat) : MS := (σ.1, fun j => bif Nat.beq j 23 then (fun i => if i < n then 0 else σ.2 23 i) else σ.2 j)
theorem zL_0 (σ : MS) : zL σ 0 = σ := by
  unfold zL
  refine Prod.ext rfl ?_
  funext j
  show (bif Nat.beq j 23 then _ else _) = _
  cases z : Nat.beq j 23 with
  | false => rfl
  | true =>
    have := Nat.eq_of_beq_eq_true z
    subst this
    funext i
    show (if i < 0 then (0 : Int32) else σ.2 23 i) = σ.2 23 i
    exact if_neg (Nat.not_lt_zero i)
theorem zL_s (σ : MS) (n : Nat) : seta (zL σ n) 23 n 0 = zL σ (n + 1) := by
  unfold zL seta
  refine Prod.ext rfl ?_
  funext j
  by_cases z : j = 23
  · subst z
    funext i
    show updB (fun i => if i < n then 0 else σ.2 23 i) n 0 i = if i < n + 1 then 0 else σ.2 23 i
    by_cases e : i = n
    · subst e; rw [updB_eq, if_pos (Nat.lt_succ_self _)]
    · rw [updB_ne e]
      by_cases e2 : i < n
      · rw [if_pos e2, if_pos (by omega)]
      · rw [if_neg e2, if_neg (by omega)]
  · have y : Nat.beq j 23 = false := by
      cases y : Nat.beq j 23 with
      | false => rfl
      | true => exact absurd (Nat.eq_of_beq_eq_true y) z
    simp only [y, cond_false]
def nPer (σ : MS) (p : Nat) : MS := seta (seta (seta σ 23 97 (σ.2 3 p)) 23 112 (σ.2 2 p)) 23 119 (σ.2 4 p)
section MDN
variable {G : Gam} {d : Nat} {k : Nat × Nat} {Y : MR} {ad : Nat → Nat} {σ σ0 : MS} {M : Mem} {lv : Lv} {st : List Value} {pc : Nat} {Q : Option Value → Mem → Prop}
theorem c_X12_bound {x : Int64} (hq : Q (some (.int (lBound x))) M) : CT G (d + 1) (0, 0) MX12_bound [.long x] M Q := by
  refine CT.of rfl (Nat.le_of_ble_eq_true rfl) ?_
  refine x_ldc2 dX12_bound_0 tb1518 ?_
  refine x_ldc2 dX12_bound_3 tb1519 ?_
  refine x_lload_n dX12_bound_6 rfl rfl ?_
  refine x_cS2 dX12_bound_7 ls_X12_216 rfl  (c_J9_min_f86c9 ?_)
  refine x_cS2 dX12_bound_10 ls_X12_222 rfl  (c_J9_max_f86c9 ?_)
  refine x_l2i dX12_bound_13 ?_
  exact x_ireturn dX12_bound_14 rfl rfl (hq)
theorem c_X12_noLetters (hi : adOK ad) (hq : Q none (mm ad (zL σ 128))) : CT G d (0, 0) MX12_noLetters [.ref (ad 99)] (mm ad σ) Q := by
  refine CT.of rfl (Nat.le_of_ble_eq_true rfl) ?_
  rw [← zL_0 σ]
  refine x_iconst (v := 0) dX12_noLetters_0 (by decide) ?_
  refine x_istore_n dX12_noLetters_1 rfl (by decide) ?_
  refine x_loc [(0, .ref (ad 99)), (1, .int (nI 0))] ⟨rfl, rfl, trivial⟩ ?_
  refine loop_up (P := fun i => XJ G d (0, 0) MX12_noLetters (mm ad (zL σ i)) [(0, .ref (ad 99)), (1, .int (nI i))] [] 2 Q) (n := 128) ?_ ?_ 0 (Nat.zero_le _)
  · refine x_iload_n dX12_noLetters_2 rfl rfl ?_
    refine x_sipush (v := 128) dX12_noLetters_3 (by decide) ?_
    refine x_icmp_ge (tgt := 22) dX12_noLetters_6 (by decide) (fun _ => ?_) (fun z => absurd (loopT (show (128 : Int32) = nI 128 from rfl)) z)
    exact x_return dX12_noLetters_22 rfl (hq)
  · intro i hlt ih
    have hin : vp_in (nI i) 128 := vp_in_nI (by omega) (by decide)
    have hcl : (nI i).toNatClampNeg = i := nI_clamp (by omega)
    refine x_iload_n dX12_noLetters_2 rfl rfl ?_
    refine x_sipush (v := 128) dX12_noLetters_3 (by decide) ?_
    refine x_icmp_ge (tgt := 22) dX12_noLetters_6 (by decide) (fun z => absurd z (loopF (show (128 : Int32) = nI 128 from rfl) hlt (by omega))) (fun _ => ?_)
    refine x_aload_n dX12_noLetters_9 rfl rfl ?_
    refine xm_geta dX12_noLetters_10 lf_X12_65 vma_23 ?_
    refine x_iload_n dX12_noLetters_13 rfl rfl ?_
    refine x_iconst (v := 0) dX12_noLetters_14 (by decide) ?_
    refine xm_iast 23 dX12_noLetters_15 mf_23 hi hin hcl ?_
    rw [zL_s]
    refine x_iinc (c := 1) dX12_noLetters_16 rfl (by decide) ?_
    refine x_goto (tgt := 2) dX12_noLetters_19 (by decide) ?_
    refine x_loc _ (?_ : lle _ _) ih
    refine ⟨rfl, ?_, trivial⟩
    · show some (Value.int _) = some (Value.int (nI (i + 1)))
      rw [← nI_1]
theorem c_X12_letPerson {p : Nat} (hi : adOK ad) (hp : p < 24) (hq : Q none (mm ad (nPer σ p))) : CT G d (0, 0) MX12_letPerson [.ref (ad 99), .int (nI p)] (mm ad σ) Q := by
  have hin : vp_in (nI p) 24 := vp_in_nI (by omega) (by decide)
  have hcl : (nI p).toNatClampNeg = p := nI_clamp (by omega)
  refine CT.of rfl (Nat.le_of_ble_eq_true rfl) ?_
  refine x_aload_n dX12_letPerson_0 rfl rfl ?_
  refine xm_geta dX12_letPerson_1 lf_X12_65 vma_23 ?_
  refine x_bipush (v := 97) dX12_letPerson_4 (by decide) ?_
  refine x_aload_n dX12_letPerson_6 rfl rfl ?_
  refine xm_geta dX12_letPerson_7 lf_X12_13 vma_3 ?_
  refine x_iload_n dX12_letPerson_10 rfl rfl ?_
  refine xm_iald 3 dX12_letPerson_11 mf_3 hi hin hcl ?_
  refine xm_iast 23 dX12_letPerson_12 mf_23 hi (show vp_in (nI 97) 128 from vp_in_nI (by decide) (by decide)) rfl ?_
  refine x_aload_n dX12_letPerson_13 rfl rfl ?_
  refine xm_geta dX12_letPerson_14 lf_X12_65 vma_23 ?_
  refine x_bipush (v := 112) dX12_letPerson_17 (by decide) ?_
  refine x_aload_n dX12_letPerson_19 rfl rfl ?_
  refine xm_geta dX12_letPerson_20 lf_X12_9 vma_2 ?_
  refine x_iload_n dX12_letPerson_23 rfl rfl ?_
  refine xm_iald 2 dX12_letPerson_24 mf_2 hi hin hcl ?_
  refine xm_iast 23 dX12_letPerson_25 mf_23 hi (show vp_in (nI 112) 128 from vp_in_nI (by decide) (by decide)) rfl ?_
  refine x_aload_n dX12_letPerson_26 rfl rfl ?_
  refine xm_geta dX12_letPerson_27 lf_X12_65 vma_23 ?_
  refine x_bipush (v := 119) dX12_letPerson_30 (by decide) ?_
  refine x_aload_n dX12_letPerson_32 rfl rfl ?_
  refine xm_geta dX12_letPerson_33 lf_X12_16 vma_4 ?_
  refine x_iload_n dX12_letPerson_36 rfl rfl ?_
  refine xm_iald 4 dX12_letPerson_37 mf_4 hi hin hcl ?_
  refine xm_iast 23 dX12_letPerson_38 mf_23 hi (show vp_in (nI 119) 128 from vp_in_nI (by decide) (by decide)) rfl ?_
  exact x_return dX12_letPerson_39 rfl (hq)
end MDN
