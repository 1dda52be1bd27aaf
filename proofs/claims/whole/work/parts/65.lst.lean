/-! the class, 13: a list grows -/
theorem mset_mset {M : Mem} {a : Nat} {c c' : Cel} : mset (mset M a c) a c' = mset M a c' := by
  funext b
  unfold mset
  by_cases h : b = a
  · rw [if_pos h, if_pos h]
  · rw [if_neg h, if_neg h, if_neg h]
theorem fL_0 {m m' n : Int32} {e : Nat} : updV (fL m e n) 0 (.int m') = fL m' e n := by
  funext j
  rcases j with _ | _ | j
  · exact updV_eq
  · exact updV_ne (by decide)
  · exact updV_ne (by omega)
theorem fL_1 {m n : Int32} {e h : Nat} : updV (fL m e n) 1 (.ref h) = fL m h n := by
  funext j
  rcases j with _ | _ | j
  · exact updV_ne (by decide)
  · exact updV_eq
  · exact updV_ne (by omega)
/-- the third and what lies past it: only the fields count -/
def nw (n : Nat) : Nat := if 1 < n / 2 then n + n / 2 else n + 1
theorem nw_ok : ∀ n, n < 301 → nI n + (if nI (n + 1) - nI n < nI n >>> ((1 : Int32) &&& 31) then nI n >>> ((1 : Int32) &&& 31) else nI (n + 1) - nI n) = nI (nw n) := by decide +kernel
theorem nw_b {n : Nat} (h : n ≤ 266) : n < nw n ∧ nw n ≤ 399 := by
  unfold nw
  split <;> omega
section LST
variable {G : Gam} {d : Nat} {M : Mem} {Q : Option Value → Mem → Prop}
theorem c_J8_newLength {n : Nat} (h : n ≤ 266) (hq : Q (some (.int (nI (nw n)))) M) : CT G (d + 1) (0, 0) MJ8_newLength_cabcc [.int (nI n), .int (nI (n + 1) - nI n), .int (nI n >>> ((1 : Int32) &&& 31))] M Q := by
  have hb := nw_b h
  refine CT.of rfl (Nat.le_of_ble_eq_true rfl) ?_
  refine x_iload_n dJ8_newLength_cabcc_0 rfl rfl ?_
  refine x_iload_n dJ8_newLength_cabcc_1 rfl rfl ?_
  refine x_iload_n dJ8_newLength_cabcc_2 rfl rfl ?_
  refine x_cS2 dJ8_newLength_cabcc_3 ls_J8_194 rfl  (c_J9_max_7cf53 ?_)
  refine x_iadd dJ8_newLength_cabcc_6 ?_
  rw [nw_ok n (by omega)]
  refine x_istore_n dJ8_newLength_cabcc_7 rfl (by decide) ?_
  refine x_iconst (v := 0) dJ8_newLength_cabcc_8 (by decide) ?_
  refine x_iload_n dJ8_newLength_cabcc_9 rfl rfl ?_
  refine x_icmp_ge (tgt := 21) dJ8_newLength_cabcc_10 (by decide) (fun z => absurd z (Int32.not_le.mpr (by rw [Int32.lt_iff_toInt_lt, nI_toInt (by omega)]; show (0 : Int) < _; omega))) (fun _ => ?_)
  refine x_iload_n dJ8_newLength_cabcc_13 rfl rfl ?_
  refine x_ldc dJ8_newLength_cabcc_14 tb286 ?_
  refine x_icmp_gt (tgt := 21) dJ8_newLength_cabcc_16 (by decide) (fun z => absurd z (Int32.not_lt.mpr (by rw [Int32.le_iff_toInt_le, nI_toInt (by omega)]; show _ ≤ (2147483639 : Int); omega))) (fun _ => ?_)
  refine x_iload_n dJ8_newLength_cabcc_19 rfl rfl ?_
  exact x_ireturn dJ8_newLength_cabcc_20 rfl rfl (hq)
theorem c_J7_copyOf_6403c {a n0 n1 mi ci : Nat} {q : vw_C} {f : Nat → Value} (hZ : ZMir G mi) (h0 : M a = some (106, n0, f)) (hle : n0 ≤ n1) (h1 : n1 ≤ 400) (hcl : vwCl[ci]? = some q) (hca : Cond.castable q.1 "java/lang/Object" ∈ lw_tbl) (hel : ∀ i, i < n0 → ∃ o sz fv, f i = .ref o ∧ M o = some (ci, sz, fv)) (hq : ∀ h g, M h = none → (∀ i, i < n0 → g i = f i) → Q (some (.ref h)) (mset M h (106, n1, g))) : CT G (d + 1) (1, 400) MJ7_copyOf_6403c [.ref a, .int (nI n1), .ref mi] M Q := by
  have hcl0 : (nI n0).toNatClampNeg = n0 := nI_clamp (by omega)
  refine CT.of rfl (Nat.le_of_ble_eq_true rfl) ?_
  refine x_aload_n dJ7_copyOf_6403c_0 rfl rfl ?_
  refine x_ldcM dJ7_copyOf_6403c_1 tb315 hZ ?_
  refine x_acmp_ne (tgt := 13) dJ7_copyOf_6403c_3 (by decide) (fun z => absurd (rfl) z) (fun _ => ?_)
  refine x_iload_n dJ7_copyOf_6403c_6 rfl rfl ?_
  refine x_anew dJ7_copyOf_6403c_7 tb317 (N := n1) (nI_pos (by omega)) (nI_clamp (by omega)) (by omega) ⟨Nat.le_refl 1, h1⟩ (fun h hn => ?_)
  refine x_goto (tgt := 24) dJ7_copyOf_6403c_10 (by decide) ?_
  refine x_astore_n dJ7_copyOf_6403c_24 rfl (by decide) ?_
  have ha : a ≠ h := fun z => by rw [z, hn] at h0; cases h0
  have h0' : mset M h (106, n1, fun _ => .null) a = some (106, n0, f) := by rw [mset_ne ha]; exact h0
  refine x_aload_n dJ7_copyOf_6403c_25 rfl rfl ?_
  refine x_iconst (v := 0) dJ7_copyOf_6403c_26 (by decide) ?_
  refine x_aload_n dJ7_copyOf_6403c_27 rfl rfl ?_
  refine x_iconst (v := 0) dJ7_copyOf_6403c_28 (by decide) ?_
  refine x_aload_n dJ7_copyOf_6403c_29 rfl rfl ?_
  refine x_alen dJ7_copyOf_6403c_30 (by decide) (by decide) h0' ?_
  refine x_iload_n dJ7_copyOf_6403c_31 rfl rfl ?_
  refine x_cS2 dJ7_copyOf_6403c_32 ls_J7_304 rfl  (c_J9_min_7cf53 ?_)
  rw [if_neg (Int32.not_lt.mpr (nI_le hle (by omega)))]
  refine x_copyQ dJ7_copyOf_6403c_35 tb321 h0' mset_eq hcl hca (by decide) (by decide) (nI_pos (by omega)) (by show 0 + _ ≤ _; rw [hcl0]; omega) (by show 0 + _ ≤ _; rw [hcl0]; omega) (fun i hi => ?_) rfl ?_
  · rw [hcl0] at hi
    obtain ⟨o, sz, fv, e1, e2⟩ := hel i hi
    exact ⟨o, sz, fv, by show f (0 + i) = _; rw [Nat.zero_add]; exact e1, by rw [mset_ne (fun z => by rw [z, hn] at e2; cases e2)]; exact e2⟩
  rw [mset_mset, hcl0]
  refine x_aload_n dJ7_copyOf_6403c_38 rfl rfl ?_
  exact x_areturn dJ7_copyOf_6403c_39 rfl (Or.inr ⟨_, rfl⟩) (Or.inr ⟨_, rfl⟩) (hq h _ hn (fun i hi => by
show va_cpy f _ 0 0 n0 i = f i
unfold va_cpy
rw [if_pos (by omega), show 0 + (i - 0) = i by omega]))
theorem c_J7_copyOf_1904c {a n0 n1 mi ci : Nat} {q : vw_C} {f : Nat → Value} (hZ : ZMir G mi) (h0 : M a = some (106, n0, f)) (hle : n0 ≤ n1) (h1 : n1 ≤ 400) (hcl : vwCl[ci]? = some q) (hca : Cond.castable q.1 "java/lang/Object" ∈ lw_tbl) (hel : ∀ i, i < n0 → ∃ o sz fv, f i = .ref o ∧ M o = some (ci, sz, fv)) (hq : ∀ h g, M h = none → (∀ i, i < n0 → g i = f i) → Q (some (.ref h)) (mset M h (106, n1, g))) : CT G (d + 2) (1, 400) MJ7_copyOf_1904c [.ref a, .int (nI n1)] M Q := by
  refine CT.of rfl (Nat.le_of_ble_eq_true rfl) ?_
  refine x_aload_n dJ7_copyOf_1904c_0 rfl rfl ?_
  refine x_iload_n dJ7_copyOf_1904c_1 rfl rfl ?_
  refine x_aload_n dJ7_copyOf_1904c_2 rfl rfl ?_
  refine x_getC dJ7_copyOf_1904c_3 tb293 h0 hZ rfl ?_
  refine x_rS3 dJ7_copyOf_1904c_6 ls_J7_300 rfl ⟨Nat.le_refl _, Nat.le_refl _⟩ (c_J7_copyOf_6403c hZ h0 hle h1 hcl hca hel ?_)
  intro h g hn hg
  exact x_areturn dJ7_copyOf_1904c_9 rfl (Or.inr ⟨_, rfl⟩) (Or.inr ⟨_, rfl⟩) (hq h g hn hg)
/-- n elements w of a kind, at e, or the shared empty row -/
def RowD (G : Gam) (M : Mem) (e n N ci : Nat) (w : Nat → Nat) : Prop := (∀ i, i < n → ∃ sz fv, M (w i) = some (ci, sz, fv)) ∧ ((n = 0 ∧ N = 0 ∧ OldE G e) ∨ ∃ g, M e = some (106, N, g) ∧ n ≤ N ∧ 10 ≤ N ∧ N ≤ 400 ∧ ∀ i, i < n → g i = .ref (w i))
theorem c_grow_i {l e n mi ci : Nat} {m : Int32} {q : vw_C} {w : Nat → Nat} (hZ : ZMir G mi) (hl : M l = some (0, 3, fL m e (nI n))) (hR : RowD G M e n n ci w) (hn : n ≤ 266) (hcl : vwCl[ci]? = some q) (hca : Cond.castable q.1 "java/lang/Object" ∈ lw_tbl) (hq : ∀ h N' g', M h = none → n < N' → 10 ≤ N' → N' ≤ 400 → (∀ i, i < n → g' i = .ref (w i)) → Q (some (.ref h)) (mset (mset M h (106, N', g')) l (0, 3, fL m h (nI n)))) : CT G (d + 3) (1, 400) MJx4a65c_grow_92f84 [.ref l, .int (nI (n + 1))] M Q := by
  obtain ⟨hex, ⟨hn0, -, hE⟩ | ⟨g, hMe, -, h10, -, hg⟩⟩ := hR
  · subst hn0
    refine CT.of rfl (Nat.le_of_ble_eq_true rfl) ?_
    refine x_aload_n dJx4a65c_grow_92f84_0 rfl rfl ?_
    refine x_getf dJx4a65c_grow_92f84_1 lf_Jx4a65c_9 hl rfl ?_
    refine x_olen dJx4a65c_grow_92f84_4 hE.1 rfl ?_
    refine x_istore_n dJx4a65c_grow_92f84_5 rfl (by decide) ?_
    refine x_iload_n dJx4a65c_grow_92f84_6 rfl rfl ?_
    refine x_if_gt (tgt := 20) dJx4a65c_grow_92f84_7 (by decide) (fun z => absurd z (by decide)) (fun _ => ?_)
    refine x_aload_n dJx4a65c_grow_92f84_10 rfl rfl ?_
    refine x_getf dJx4a65c_grow_92f84_11 lf_Jx4a65c_9 hl rfl ?_
    refine x_gets dJx4a65c_grow_92f84_14 hE.2 tb52 rfl ?_
    refine x_acmp_eq (tgt := 45) dJx4a65c_grow_92f84_17 (by decide) (fun _ => ?_) (fun z => absurd (rfl) z)
    refine x_aload_n dJx4a65c_grow_92f84_45 rfl rfl ?_
    refine x_bipush (v := 10) dJx4a65c_grow_92f84_46 (by decide) ?_
    refine x_iload_n dJx4a65c_grow_92f84_48 rfl rfl ?_
    refine x_cS2 dJx4a65c_grow_92f84_49 ls_Jx4a65c_79 rfl  (c_J9_max_7cf53 ?_)
    rw [show (if (10 : Int32) < nI (0 + 1) then nI (0 + 1) else 10) = nI 10 from by decide]
    refine x_anew dJx4a65c_grow_92f84_52 tb325 (N := 10) (by decide) (by decide) (by decide) ⟨Nat.le_refl 1, by decide⟩ (fun h hn2 => ?_)
    refine x_dup_x1 dJx4a65c_grow_92f84_55 rfl rfl ?_
    refine x_putf dJx4a65c_grow_92f84_56 lp_Jx4a65c_9 (by rw [mset_ne (fun z => by rw [z, hn2] at hl; cases hl)]; exact hl) rfl rfl ?_
    rw [fL_1]
    exact x_areturn dJx4a65c_grow_92f84_59 rfl (Or.inr ⟨_, rfl⟩) (Or.inr ⟨_, rfl⟩) (hq h 10 _ hn2 (by decide) (by decide) (by decide) (fun i hi => absurd hi (Nat.not_lt_zero i)))
  · have hb := nw_b hn
    refine CT.of rfl (Nat.le_of_ble_eq_true rfl) ?_
    refine x_aload_n dJx4a65c_grow_92f84_0 rfl rfl ?_
    refine x_getf dJx4a65c_grow_92f84_1 lf_Jx4a65c_9 hl rfl ?_
    refine x_alen dJx4a65c_grow_92f84_4 (by decide) (by decide) hMe ?_
    refine x_istore_n dJx4a65c_grow_92f84_5 rfl (by decide) ?_
    refine x_iload_n dJx4a65c_grow_92f84_6 rfl rfl ?_
    refine x_if_gt (tgt := 20) dJx4a65c_grow_92f84_7 (by decide) (fun _ => ?_) (fun z => absurd (by rw [Int32.lt_iff_toInt_lt, nI_toInt (by omega)]; show (0 : Int) < _; omega) z)
    refine x_iload_n dJx4a65c_grow_92f84_20 rfl rfl ?_
    refine x_iload_n dJx4a65c_grow_92f84_21 rfl rfl ?_
    refine x_iload_n dJx4a65c_grow_92f84_22 rfl rfl ?_
    refine x_isub dJx4a65c_grow_92f84_23 ?_
    refine x_iload_n dJx4a65c_grow_92f84_24 rfl rfl ?_
    refine x_iconst (v := 1) dJx4a65c_grow_92f84_25 (by decide) ?_
    refine x_ishr dJx4a65c_grow_92f84_26 ?_
    refine x_cS3 dJx4a65c_grow_92f84_27 ls_Jx4a65c_73 rfl  (c_J8_newLength hn ?_)
    refine x_istore_n dJx4a65c_grow_92f84_30 rfl (by decide) ?_
    refine x_aload_n dJx4a65c_grow_92f84_31 rfl rfl ?_
    refine x_aload_n dJx4a65c_grow_92f84_32 rfl rfl ?_
    refine x_getf dJx4a65c_grow_92f84_33 lf_Jx4a65c_9 hl rfl ?_
    refine x_iload_n dJx4a65c_grow_92f84_36 rfl rfl ?_
    refine x_rS2 dJx4a65c_grow_92f84_37 ls_Jx4a65c_66 rfl ⟨Nat.le_refl _, Nat.le_refl _⟩ (c_J7_copyOf_1904c hZ hMe (by omega) (by omega) hcl hca (fun i hi => by
obtain ⟨sz, fv, h⟩ := hex i hi
exact ⟨w i, sz, fv, hg i hi, h⟩) ?_)
    intro h g' hn2 hg'
    refine x_dup_x1 dJx4a65c_grow_92f84_40 rfl rfl ?_
    refine x_putf dJx4a65c_grow_92f84_41 lp_Jx4a65c_9 (by rw [mset_ne (fun z => by rw [z, hn2] at hl; cases hl)]; exact hl) rfl rfl ?_
    rw [fL_1]
    exact x_areturn dJx4a65c_grow_92f84_44 rfl (Or.inr ⟨_, rfl⟩) (Or.inr ⟨_, rfl⟩) (hq h (nw n) g' hn2 (by omega) (by omega) (by omega) (fun i hi => (hg' i hi).trans (hg i hi)))
theorem c_grow {l e n mi ci : Nat} {m : Int32} {q : vw_C} {w : Nat → Nat} (hZ : ZMir G mi) (hl : M l = some (0, 3, fL m e (nI n))) (hR : RowD G M e n n ci w) (hn : n ≤ 266) (hcl : vwCl[ci]? = some q) (hca : Cond.castable q.1 "java/lang/Object" ∈ lw_tbl) (hq : ∀ h N' g', M h = none → n < N' → 10 ≤ N' → N' ≤ 400 → (∀ i, i < n → g' i = .ref (w i)) → Q (some (.ref h)) (mset (mset M h (106, N', g')) l (0, 3, fL m h (nI n)))) : CT G (d + 4) (1, 400) MJx4a65c_grow_d5877 [.ref l] M Q := by
  refine CT.of rfl (Nat.le_of_ble_eq_true rfl) ?_
  refine x_aload_n dJx4a65c_grow_d5877_0 rfl rfl ?_
  refine x_aload_n dJx4a65c_grow_d5877_1 rfl rfl ?_
  refine x_getf dJx4a65c_grow_d5877_2 lf_Jx4a65c_48 hl rfl ?_
  refine x_iconst (v := 1) dJx4a65c_grow_d5877_5 (by decide) ?_
  refine x_iadd dJx4a65c_grow_d5877_6 ?_
  rw [nI_1]
  refine x_rV1 dJx4a65c_grow_d5877_7 lv_Jx4a65c_69 hl rfl rfl rfl ⟨Nat.le_refl _, Nat.le_refl _⟩ (c_grow_i hZ hl hR hn hcl hca ?_)
  intro h N' g' h1 h2 h3 h4 h5
  exact x_areturn dJx4a65c_grow_d5877_10 rfl (Or.inr ⟨_, rfl⟩) (Or.inr ⟨_, rfl⟩) (hq h N' g' h1 h2 h3 h4 h5)
end LST
