/-! the class, 17: objects' constructors; persons, stops, happenings, marks, questions, lines -/
theorem fr_ne {M : Mem} {v b : Nat} {c : Cel} (h : M v = none) (h1 : M b = some c) : b ≠ v := fun z => by rw [z, h] at h1; cases h1
theorem cn_seti_ne {σ0 σ : MS} {k j : Nat} {v : Int32} (h1 : σ0.1 = σ.1) (h : ¬ j = k) : cn (seti σ0 k v) j = cn σ j := by
  unfold cn
  rw [seti_ne h, h1]
theorem li_cases {j : Nat} (h : isLi j) : j = 1 ∨ j = 2 ∨ j = 3 ∨ j = 4 ∨ j = 5 ∨ j = 6 ∨ j = 7 := by
  have h1 := h.1
  have h2 := h.2
  omega
theorem cK_ne {j k : Nat} (h : isLi j) (hk : isLi k) (hne : j ≠ k) : ¬ cK j = cK k := by
  rcases li_cases h with rfl | rfl | rfl | rfl | rfl | rfl | rfl <;> rcases li_cases hk with rfl | rfl | rfl | rfl | rfl | rfl | rfl <;> first | exact absurd rfl hne | decide
theorem oV_c {ω : Nat → Nat → Nat} {σ σ' : MS} {i : Nat} (h : ∀ r, σ'.2 r i = σ.2 r i) (j : Nat) : oV ω σ' j i = oV ω σ j i := by
  unfold oV
  simp only [h]
theorem s2_of {σ0 σ : MS} {k : Nat} {v : Int32} (h1 : σ0.1 = σ.1) (hk : isLi k) : ∀ j, isLi j → j ≠ k → cn (seti σ0 (cK k) v) (cK j) = cn σ (cK j) := fun j hj hne => cn_seti_ne h1 (cK_ne hj hk hne)
def rLo (k : Nat) : Nat := match k with
  | 1 => 2
  | 2 => 8
  | 3 => 5
  | 4 => 19
  | 5 => 38
  | 6 => 45
  | _ => 62
def rHi (k : Nat) : Nat := match k with
  | 1 => 4
  | 2 => 14
  | 3 => 7
  | 4 => 22
  | 5 => 42
  | 6 => 48
  | _ => 63
theorem rLH {j k : Nat} (h : isLi j) (hk : isLi k) (hne : j ≠ k) : rHi j < rLo k ∨ rHi k < rLo j := by
  rcases li_cases h with rfl | rfl | rfl | rfl | rfl | rfl | rfl <;> rcases li_cases hk with rfl | rfl | rfl | rfl | rfl | rfl | rfl <;> first | exact absurd rfl hne | decide
theorem oV_r {ω : Nat → Nat → Nat} {σ σ' : MS} {j : Nat} (hj : isLi j) (h : ∀ r, rLo j ≤ r → r ≤ rHi j → σ'.2 r = σ.2 r) (i : Nat) : oV ω σ' j i = oV ω σ j i := by
  rcases li_cases hj with rfl | rfl | rfl | rfl | rfl | rfl | rfl
  · unfold oV; simp only [h 2 (by decide) (by decide), h 3 (by decide) (by decide), h 4 (by decide) (by decide)]
  · unfold oV; simp only [h 8 (by decide) (by decide), h 9 (by decide) (by decide), h 10 (by decide) (by decide), h 11 (by decide) (by decide), h 12 (by decide) (by decide), h 13 (by decide) (by decide), h 14 (by decide) (by decide)]
  · unfold oV; simp only [h 5 (by decide) (by decide), h 6 (by decide) (by decide), h 7 (by decide) (by decide)]
  · unfold oV; simp only [h 21 (by decide) (by decide), h 22 (by decide) (by decide)]
  · unfold oV; simp only [h 38 (by decide) (by decide), h 39 (by decide) (by decide), h 40 (by decide) (by decide), h 41 (by decide) (by decide), h 42 (by decide) (by decide)]
  · unfold oV; simp only [h 45 (by decide) (by decide), h 46 (by decide) (by decide), h 47 (by decide) (by decide), h 48 (by decide) (by decide)]
  · unfold oV; simp only [h 62 (by decide) (by decide), h 63 (by decide) (by decide)]
theorem s3_of {ω : Nat → Nat → Nat} {σ σ' : MS} {k : Nat} (hk : isLi k) (h : ∀ r i, i ≠ cn σ (cK k) → σ'.2 r i = σ.2 r i) (hr : ∀ r, (r < rLo k ∨ rHi k < r) → σ'.2 r = σ.2 r) : ∀ j i, isLi j → i < cn σ (cK j) → oV ω σ' j i = oV ω σ j i := fun j i hj hi => by
  by_cases e : j = k
  · subst e; exact oV_c (fun r => h r i (by omega)) j
  · exact oV_r hj (fun r h1 h2 => hr r (by
      rcases rLH hj hk e with z | z <;> omega)) i
theorem seta_at {σ : MS} {r n i r' : Nat} {v : Int32} (h : i ≠ n) : (seta σ r n v).2 r' i = σ.2 r' i := by
  by_cases e : r' = r
  · rw [e, seta_eq, updB_ne h]
  · rw [seta_ne e]
/-- a row of values at one index -/
def setL (σ : MS) (n : Nat) : List (Nat × Int32) → MS
  | [] => σ
  | (r, v) :: t => setL (seta σ r n v) n t
theorem setL_at {n i : Nat} (h : i ≠ n) : ∀ (l : List (Nat × Int32)) (σ : MS) (r : Nat), (setL σ n l).2 r i = σ.2 r i
  | [], _, _ => rfl
  | (r', v) :: t, σ, r => (setL_at h t (seta σ r' n v) r).trans (seta_at h)
theorem setL_ne {n r : Nat} : ∀ (l : List (Nat × Int32)) (σ : MS), (∀ q ∈ l, r ≠ q.1) → (setL σ n l).2 r = σ.2 r
  | [], _, _ => rfl
  | (r', v) :: t, σ, h => (setL_ne t (seta σ r' n v) (fun q hq => h q (List.mem_cons_of_mem _ hq))).trans (seta_ne (h (r', v) List.mem_cons_self))
theorem s3_L {ω : Nat → Nat → Nat} {σ : MS} {k c : Nat} {v : Int32} (hk : isLi k) (l : List (Nat × Int32)) (hl : (l.all fun q => Nat.ble (rLo k) q.1 && Nat.ble q.1 (rHi k)) = true) : ∀ j i, isLi j → i < cn σ (cK j) → oV ω (seti (setL σ (cn σ (cK k)) l) c v) j i = oV ω σ j i := by
  refine s3_of hk (fun r i h => setL_at h l σ r) (fun r hr => setL_ne l σ (fun q hq z => ?_))
  have := List.all_eq_true.mp hl q hq
  rw [Bool.and_eq_true] at this
  have h1 := Nat.le_of_ble_eq_true this.1
  have h2 := Nat.le_of_ble_eq_true this.2
  omega
section PAD
variable {G : Gam} {d : Nat} {τ : Nat → Nat} {ω : Nat → Nat → Nat} {ε : Nat → Nat} {σ κ : MS} {Md : Mem} {M : Mem} {Q : Option Value → Mem → Prop} {k : Nat}
/-! lists of the house while a new object lies beside it -/
theorem c_lszM {M : Mem} {l n e : Nat} {m : Int32} (hM : M l = some (0, 3, fL m e (nI n))) (hq : Q (some (.int (nI n))) M) : CT G d (0, 0) MJx4a65c_size_8abf5 [.ref l] M Q := by
  refine CT.of rfl (Nat.le_of_ble_eq_true rfl) ?_
  refine x_aload_n dJx4a65c_size_8abf5_0 rfl rfl ?_
  refine x_getf dJx4a65c_size_8abf5_1 lf_Jx4a65c_48 hM rfl ?_
  exact x_ireturn dJx4a65c_size_8abf5_4 rfl rfl (hq)
theorem c_lszF {v : Nat} {c : Cel} (hD : Dyn G τ ω ε σ Md) (hk : isLi k) (hv : cm τ κ Md v = none) (hq : Q (some (.int (nI (cn σ (cK k))))) (mset (cm τ κ Md) v c)) : CT G d (0, 0) MJx4a65c_size_8abf5 [.ref (τ k)] (mset (cm τ κ Md) v c) Q := by
  obtain ⟨m, N, g, h1, -⟩ := hD.2.1 k hk
  have hM := kd (κ := κ) hD.1 h1
  exact c_lszM (by rw [mset_ne (fr_ne hv hM)]; exact hM) hq
theorem c_lelM {M : Mem} {l e n N w i : Nat} {m : Int32} {g : Nat → Value} (hM : M l = some (0, 3, fL m e (nI n))) (hM2 : M e = some (106, N, g)) (h3 : n ≤ N) (h5 : N ≤ 400) (h4 : g i = .ref w) (hi : i < n) (hq : Q (some (.ref w)) M) : CT G d (0, 0) MJx4a65c_elementData_915e3 [.ref l, .int (nI i)] M Q := by
  have hcl : (nI i).toNatClampNeg = i := nI_clamp (by omega)
  refine CT.of rfl (Nat.le_of_ble_eq_true rfl) ?_
  refine x_aload_n dJx4a65c_elementData_915e3_0 rfl rfl ?_
  refine x_getf dJx4a65c_elementData_915e3_1 lf_Jx4a65c_9 hM rfl ?_
  refine x_iload_n dJx4a65c_elementData_915e3_4 rfl rfl ?_
  refine x_aaload dJx4a65c_elementData_915e3_5 (by decide) hM2 (vp_in_nI (by omega) (by omega)) (show g (nI i).toNatClampNeg = .ref w by rw [hcl]; exact h4) ?_
  exact x_areturn dJx4a65c_elementData_915e3_6 rfl (Or.inl ⟨_, rfl⟩) (Or.inr ⟨_, rfl⟩) (hq)
theorem c_lgetM {M : Mem} {l e n N w i : Nat} {m : Int32} {g : Nat → Value} (hM : M l = some (0, 3, fL m e (nI n))) (hM2 : M e = some (106, N, g)) (h3 : n ≤ N) (h5 : N ≤ 400) (h4 : g i = .ref w) (hi : i < n) (hq : Q (some (.ref w)) M) : CT G (d + 2) (0, 0) MJx4a65c_get_915e3 [.ref l, .int (nI i)] M Q := by
  refine CT.of rfl (Nat.le_of_ble_eq_true rfl) ?_
  refine x_iload_n dJx4a65c_get_915e3_0 rfl rfl ?_
  refine x_aload_n dJx4a65c_get_915e3_1 rfl rfl ?_
  refine x_getf dJx4a65c_get_915e3_2 lf_Jx4a65c_48 hM rfl ?_
  refine x_cS2 dJx4a65c_get_915e3_5 ls_Jx4a65c_118 rfl  (c_J15_checkIndex (by omega) hi ?_)
  refine x_pop dJx4a65c_get_915e3_8 rfl ?_
  refine x_aload_n dJx4a65c_get_915e3_9 rfl rfl ?_
  refine x_iload_n dJx4a65c_get_915e3_10 rfl rfl ?_
  refine x_cV1 dJx4a65c_get_915e3_11 lv_Jx4a65c_123 hM rfl rfl rfl  (c_lelM hM hM2 h3 h5 h4 hi ?_)
  exact x_areturn dJx4a65c_get_915e3_14 rfl (Or.inl ⟨_, rfl⟩) (Or.inr ⟨_, rfl⟩) (hq)
theorem c_lgetF {v i : Nat} {c : Cel} (hD : Dyn G τ ω ε σ Md) (hk : isLi k) (hv : cm τ κ Md v = none) (hi : i < cn σ (cK k)) (hq : Q (some (.ref (ω k i))) (mset (cm τ κ Md) v c)) : CT G (d + 2) (0, 0) MJx4a65c_get_915e3 [.ref (τ k), .int (nI i)] (mset (cm τ κ Md) v c) Q := by
  obtain ⟨m, N, g, h1, h2 | ⟨h2, h3, -, h5, h4⟩⟩ := hD.2.1 k hk
  · exact absurd hi (by rw [h2.1]; exact Nat.not_lt_zero _)
  · have hM := kd (κ := κ) hD.1 h1
    have hM2 := kd (κ := κ) hD.1 h2
    exact c_lgetM (by rw [mset_ne (fr_ne hv hM)]; exact hM) (by rw [mset_ne (fr_ne hv hM2)]; exact hM2) h3 h5 (h4 i hi) hi hq
theorem c_X4_init {v : Nat} {f : Nat → Value} {n a b c : Int32} (hM : M v = some (5, 5, f)) (hq : ∀ f' : Nat → Value, f' 0 = .int n → f' 1 = .int a → f' 2 = .int b → f' 3 = .int c → f' 4 = .int (strat b) → Q none (mset M v (5, 5, f'))) : CT G (d + 1) (0, 0) MX4_init [.ref v, .int n, .int a, .int b, .int c] M Q := by
  refine CT.of rfl (Nat.le_of_ble_eq_true rfl) ?_
  refine x_aload_n dX4_init_0 rfl rfl ?_
  refine x_objInit dX4_init_1 tb242 (Nat.le_of_ble_eq_true rfl) ?_
  refine x_aload_n dX4_init_4 rfl rfl ?_
  refine x_iload_n dX4_init_5 rfl rfl ?_
  refine x_putF dX4_init_6 lp_X4_7 rfl hM rfl rfl ?_
  refine x_aload_n dX4_init_9 rfl rfl ?_
  refine x_iload_n dX4_init_10 rfl rfl ?_
  refine x_putF dX4_init_11 lp_X4_13 rfl mset_eq rfl rfl ?_
  refine x_aload_n dX4_init_14 rfl rfl ?_
  refine x_iload_n dX4_init_15 rfl rfl ?_
  refine x_putF dX4_init_16 lp_X4_16 rfl mset_eq rfl rfl ?_
  refine x_aload_n dX4_init_19 rfl rfl ?_
  refine x_iload dX4_init_20 rfl ?_
  refine x_putF dX4_init_22 lp_X4_19 rfl mset_eq rfl rfl ?_
  refine x_aload_n dX4_init_25 rfl rfl ?_
  refine x_iload_n dX4_init_26 rfl rfl ?_
  refine x_bipush (v := 25) dX4_init_27 (by decide) ?_
  refine x_icmp_ge (tgt := 36) dX4_init_29 (by decide) (fun h29 => ?_) (fun h29 => ?_)
  · refine x_iload_n dX4_init_36 rfl rfl ?_
    refine x_bipush (v := 45) dX4_init_37 (by decide) ?_
    refine x_icmp_ge (tgt := 46) dX4_init_39 (by decide) (fun h39 => ?_) (fun h39 => ?_)
    · refine x_iload_n dX4_init_46 rfl rfl ?_
      refine x_bipush (v := 65) dX4_init_47 (by decide) ?_
      refine x_icmp_ge (tgt := 56) dX4_init_49 (by decide) (fun h49 => ?_) (fun h49 => ?_)
      · refine x_iconst (v := 3) dX4_init_56 (by decide) ?_
        refine x_putF dX4_init_57 lp_X4_22 rfl mset_eq rfl rfl ?_
        exact x_return dX4_init_60 rfl ((by
rw [mset_mset, mset_mset, mset_mset, mset_mset]
refine hq _ rfl rfl rfl rfl ?_
refine congrArg Value.int ?_
unfold strat
first
| rw [if_pos (Int32.not_le.mp h29)]
| rw [if_neg (Int32.not_lt.mpr h29), if_pos (Int32.not_le.mp h39)]
| rw [if_neg (Int32.not_lt.mpr h29), if_neg (Int32.not_lt.mpr h39), if_pos (Int32.not_le.mp h49)]
| rw [if_neg (Int32.not_lt.mpr h29), if_neg (Int32.not_lt.mpr h39), if_neg (Int32.not_lt.mpr h49)]))
      · refine x_iconst (v := 2) dX4_init_52 (by decide) ?_
        refine x_goto (tgt := 57) dX4_init_53 (by decide) ?_
        refine x_putF dX4_init_57 lp_X4_22 rfl mset_eq rfl rfl ?_
        exact x_return dX4_init_60 rfl ((by
rw [mset_mset, mset_mset, mset_mset, mset_mset]
refine hq _ rfl rfl rfl rfl ?_
refine congrArg Value.int ?_
unfold strat
first
| rw [if_pos (Int32.not_le.mp h29)]
| rw [if_neg (Int32.not_lt.mpr h29), if_pos (Int32.not_le.mp h39)]
| rw [if_neg (Int32.not_lt.mpr h29), if_neg (Int32.not_lt.mpr h39), if_pos (Int32.not_le.mp h49)]
| rw [if_neg (Int32.not_lt.mpr h29), if_neg (Int32.not_lt.mpr h39), if_neg (Int32.not_lt.mpr h49)]))
    · refine x_iconst (v := 1) dX4_init_42 (by decide) ?_
      refine x_goto (tgt := 57) dX4_init_43 (by decide) ?_
      refine x_putF dX4_init_57 lp_X4_22 rfl mset_eq rfl rfl ?_
      exact x_return dX4_init_60 rfl ((by
rw [mset_mset, mset_mset, mset_mset, mset_mset]
refine hq _ rfl rfl rfl rfl ?_
refine congrArg Value.int ?_
unfold strat
first
| rw [if_pos (Int32.not_le.mp h29)]
| rw [if_neg (Int32.not_lt.mpr h29), if_pos (Int32.not_le.mp h39)]
| rw [if_neg (Int32.not_lt.mpr h29), if_neg (Int32.not_lt.mpr h39), if_pos (Int32.not_le.mp h49)]
| rw [if_neg (Int32.not_lt.mpr h29), if_neg (Int32.not_lt.mpr h39), if_neg (Int32.not_lt.mpr h49)]))
  · refine x_iconst (v := 0) dX4_init_32 (by decide) ?_
    refine x_goto (tgt := 57) dX4_init_33 (by decide) ?_
    refine x_putF dX4_init_57 lp_X4_22 rfl mset_eq rfl rfl ?_
    exact x_return dX4_init_60 rfl ((by
rw [mset_mset, mset_mset, mset_mset, mset_mset]
refine hq _ rfl rfl rfl rfl ?_
refine congrArg Value.int ?_
unfold strat
first
| rw [if_pos (Int32.not_le.mp h29)]
| rw [if_neg (Int32.not_lt.mpr h29), if_pos (Int32.not_le.mp h39)]
| rw [if_neg (Int32.not_lt.mpr h29), if_neg (Int32.not_lt.mpr h39), if_pos (Int32.not_le.mp h49)]
| rw [if_neg (Int32.not_lt.mpr h29), if_neg (Int32.not_lt.mpr h39), if_neg (Int32.not_lt.mpr h49)]))
theorem c_X7_init {v : Nat} {f : Nat → Value} {a b c : Int32} (hM : M v = some (8, 3, f)) (hq : ∀ f' : Nat → Value, f' 0 = .int a → f' 1 = .int b → f' 2 = .int c → Q none (mset M v (8, 3, f'))) : CT G (d + 1) (0, 0) MX7_init [.ref v, .int a, .int b, .int c] M Q := by
  refine CT.of rfl (Nat.le_of_ble_eq_true rfl) ?_
  refine x_aload_n dX7_init_0 rfl rfl ?_
  refine x_objInit dX7_init_1 tb413 (Nat.le_of_ble_eq_true rfl) ?_
  refine x_aload_n dX7_init_4 rfl rfl ?_
  refine x_iload_n dX7_init_5 rfl rfl ?_
  refine x_putF dX7_init_6 lp_X7_7 rfl hM rfl rfl ?_
  refine x_aload_n dX7_init_9 rfl rfl ?_
  refine x_iload_n dX7_init_10 rfl rfl ?_
  refine x_putF dX7_init_11 lp_X7_13 rfl mset_eq rfl rfl ?_
  refine x_aload_n dX7_init_14 rfl rfl ?_
  refine x_iload_n dX7_init_15 rfl rfl ?_
  refine x_putF dX7_init_16 lp_X7_16 rfl mset_eq rfl rfl ?_
  exact x_return dX7_init_19 rfl ((by rw [mset_mset, mset_mset]; exact hq _ rfl rfl rfl))
theorem c_X0_init {v : Nat} {f : Nat → Value} {a b c z e : Int32} (hz : z = 0 ∨ z = 1) (hM : M v = some (1, 5, f)) (hq : ∀ f' : Nat → Value, f' 0 = .int a → f' 1 = .int b → f' 2 = .int c → f' 3 = .int z → f' 4 = .int e → Q none (mset M v (1, 5, f'))) : CT G (d + 1) (0, 0) MX0_init [.ref v, .int a, .int b, .int c, .int z, .int e] M Q := by
  refine CT.of rfl (Nat.le_of_ble_eq_true rfl) ?_
  refine x_aload_n dX0_init_0 rfl rfl ?_
  refine x_objInit dX0_init_1 tb777 (Nat.le_of_ble_eq_true rfl) ?_
  refine x_aload_n dX0_init_4 rfl rfl ?_
  refine x_iload_n dX0_init_5 rfl rfl ?_
  refine x_putF dX0_init_6 lp_X0_7 rfl hM rfl rfl ?_
  refine x_aload_n dX0_init_9 rfl rfl ?_
  refine x_iload_n dX0_init_10 rfl rfl ?_
  refine x_putF dX0_init_11 lp_X0_13 rfl mset_eq rfl rfl ?_
  refine x_aload_n dX0_init_14 rfl rfl ?_
  refine x_iload_n dX0_init_15 rfl rfl ?_
  refine x_putF dX0_init_16 lp_X0_16 rfl mset_eq rfl rfl ?_
  refine x_aload_n dX0_init_19 rfl rfl ?_
  refine x_iload dX0_init_20 rfl ?_
  refine x_putF dX0_init_22 lp_X0_19 rfl mset_eq (by rcases hz with rfl | rfl <;> rfl) (by rcases hz with rfl | rfl <;> rfl) ?_
  refine x_aload_n dX0_init_25 rfl rfl ?_
  refine x_iload dX0_init_26 rfl ?_
  refine x_putF dX0_init_28 lp_X0_23 rfl mset_eq rfl rfl ?_
  exact x_return dX0_init_31 rfl ((by rw [mset_mset, mset_mset, mset_mset, mset_mset]; exact hq _ rfl rfl rfl rfl rfl))
theorem c_X2_init {v : Nat} {f : Nat → Value} {a b c e : Int32} (hM : M v = some (3, 4, f)) (hq : ∀ f' : Nat → Value, f' 0 = .int a → f' 1 = .int b → f' 2 = .int c → f' 3 = .int e → Q none (mset M v (3, 4, f'))) : CT G (d + 1) (0, 0) MX2_init [.ref v, .int a, .int b, .int c, .int e] M Q := by
  refine CT.of rfl (Nat.le_of_ble_eq_true rfl) ?_
  refine x_aload_n dX2_init_0 rfl rfl ?_
  refine x_objInit dX2_init_1 tb831 (Nat.le_of_ble_eq_true rfl) ?_
  refine x_aload_n dX2_init_4 rfl rfl ?_
  refine x_iload_n dX2_init_5 rfl rfl ?_
  refine x_putF dX2_init_6 lp_X2_7 rfl hM rfl rfl ?_
  refine x_aload_n dX2_init_9 rfl rfl ?_
  refine x_iload_n dX2_init_10 rfl rfl ?_
  refine x_putF dX2_init_11 lp_X2_13 rfl mset_eq rfl rfl ?_
  refine x_aload_n dX2_init_14 rfl rfl ?_
  refine x_iload_n dX2_init_15 rfl rfl ?_
  refine x_putF dX2_init_16 lp_X2_16 rfl mset_eq rfl rfl ?_
  refine x_aload_n dX2_init_19 rfl rfl ?_
  refine x_iload dX2_init_20 rfl ?_
  refine x_putF dX2_init_22 lp_X2_19 rfl mset_eq rfl rfl ?_
  exact x_return dX2_init_25 rfl ((by rw [mset_mset, mset_mset, mset_mset]; exact hq _ rfl rfl rfl rfl))
theorem c_X5_init {v : Nat} {f : Nat → Value} {a b : Int32} (hM : M v = some (6, 2, f)) (hq : ∀ f' : Nat → Value, f' 0 = .int a → f' 1 = .int b → Q none (mset M v (6, 2, f'))) : CT G (d + 1) (0, 0) MX5_init [.ref v, .int a, .int b] M Q := by
  refine CT.of rfl (Nat.le_of_ble_eq_true rfl) ?_
  refine x_aload_n dX5_init_0 rfl rfl ?_
  refine x_objInit dX5_init_1 tb1033 (Nat.le_of_ble_eq_true rfl) ?_
  refine x_aload_n dX5_init_4 rfl rfl ?_
  refine x_iload_n dX5_init_5 rfl rfl ?_
  refine x_putF dX5_init_6 lp_X5_7 rfl hM rfl rfl ?_
  refine x_aload_n dX5_init_9 rfl rfl ?_
  refine x_iload_n dX5_init_10 rfl rfl ?_
  refine x_putF dX5_init_11 lp_X5_13 rfl mset_eq rfl rfl ?_
  exact x_return dX5_init_14 rfl ((by rw [mset_mset]; exact hq _ rfl rfl))
theorem c_X1_init {v : Nat} {f : Nat → Value} {w : Nat} {b c e g h i : Int32} (hM : M v = some (2, 7, f)) (hq : ∀ f' : Nat → Value, f' 0 = .ref w → f' 1 = .int b → f' 2 = .int c → f' 3 = .int e → f' 4 = .int g → f' 5 = .int h → f' 6 = .int i → Q none (mset M v (2, 7, f'))) : CT G (d + 1) (0, 0) MX1_init [.ref v, .ref w, .int b, .int c, .int e, .int g, .int h, .int i] M Q := by
  refine CT.of rfl (Nat.le_of_ble_eq_true rfl) ?_
  refine x_aload_n dX1_init_0 rfl rfl ?_
  refine x_objInit dX1_init_1 tb372 (Nat.le_of_ble_eq_true rfl) ?_
  refine x_aload_n dX1_init_4 rfl rfl ?_
  refine x_aload_n dX1_init_5 rfl rfl ?_
  refine x_putF dX1_init_6 lp_X1_7 rfl hM rfl rfl ?_
  refine x_aload_n dX1_init_9 rfl rfl ?_
  refine x_iload_n dX1_init_10 rfl rfl ?_
  refine x_putF dX1_init_11 lp_X1_13 rfl mset_eq rfl rfl ?_
  refine x_aload_n dX1_init_14 rfl rfl ?_
  refine x_iload_n dX1_init_15 rfl rfl ?_
  refine x_putF dX1_init_16 lp_X1_17 rfl mset_eq rfl rfl ?_
  refine x_aload_n dX1_init_19 rfl rfl ?_
  refine x_iload dX1_init_20 rfl ?_
  refine x_putF dX1_init_22 lp_X1_20 rfl mset_eq rfl rfl ?_
  refine x_aload_n dX1_init_25 rfl rfl ?_
  refine x_iload dX1_init_26 rfl ?_
  refine x_putF dX1_init_28 lp_X1_23 rfl mset_eq rfl rfl ?_
  refine x_aload_n dX1_init_31 rfl rfl ?_
  refine x_iload dX1_init_32 rfl ?_
  refine x_putF dX1_init_34 lp_X1_26 rfl mset_eq rfl rfl ?_
  refine x_aload_n dX1_init_37 rfl rfl ?_
  refine x_iload dX1_init_38 rfl ?_
  refine x_putF dX1_init_40 lp_X1_29 rfl mset_eq rfl rfl ?_
  exact x_return dX1_init_43 rfl ((by rw [mset_mset, mset_mset, mset_mset, mset_mset, mset_mset, mset_mset]; exact hq _ rfl rfl rfl rfl rfl rfl rfl))
def pN (σ : MS) (a b c : Int32) : MS := seti (seta (seta (seta σ 2 (cn σ 15) a) 3 (cn σ 15) b) 4 (cn σ 15) c) 15 (σ.1 15 + 1)
theorem pN_L {a b c : Int32} (h : LinP σ) (e1 : σ.1 15 = nI (cn σ 15)) (e2 : cn σ 15 ≤ 24) : LinP (pN σ a b c) := fun l hl => by
  have h1 := h l hl
  refine ⟨h1.1, ?_⟩
  show σ.2 8 l < σ.1 15 + 1
  have h2 := h1.2
  rw [e1] at h2 ⊢
  rw [nI_1]
  exact Int32.lt_trans h2 (nI_lt (by omega) (by omega))
theorem c_X11_person {a b c : Int32} {mi : Nat} (hW : Wld G τ ω ε σ κ Md) (hZ : ZMir G mi) (hq : ∀ Md' ω' ε', Dyn G τ ω' ε' (nPerson σ a b c) Md' → Q (some (.int (aPerson σ a b c))) (cm τ κ Md')) : CT G (d + 7) (2, 410) MX11_person [.ref (τ 0), .int a, .int b, .int c] (cm τ κ Md) Q := by
  obtain ⟨hi, hc, hD, hK⟩ := hW
  obtain ⟨e1, e2⟩ := hc.b 15 (b := 24) (by decide)
  have hno : ¬ pPerson σ a b c → Q (some (.int (-1))) (cm τ κ Md) := fun z => by
    have h := hq Md ω ε
    rw [show nPerson σ a b c = σ from cI_f z, show aPerson σ a b c = -1 from cI_f z] at h
    exact h hD
  have hlt : σ.1 15 ≠ 24 ↔ nI (cn σ 15) < 24 := by
    rw [e1]
    constructor
    · intro z
      exact nI_lt (b := 24) (by have : ¬ cn σ 15 = 24 := fun y => z (by rw [y]; rfl); omega) (by decide)
    · intro z y
      rw [y] at z
      exact absurd z (by decide)
  have hn1 : cn (pN σ a b c) 15 = cn σ 15 + 1 := by
    show (σ.1 15 + 1).toNatClampNeg = _
    rw [e1, nI_1, nI_clamp (by omega)]
  refine CT.of rfl (Nat.le_of_ble_eq_true rfl) ?_
  refine x_iload_n dX11_person_0 rfl rfl ?_
  refine x_cS1 dX11_person_1 ls_X11_96 rfl  (c_X11_isPlace ?_)
  refine x_if_eq_b (tgt := 40) dX11_person_4 (by decide) (fun h4 => ?_) (fun h4 => ?_)
  · refine x_iconst (v := -1) dX11_person_40 (by decide) ?_
    exact x_ireturn dX11_person_41 rfl rfl (hno (fun z => by first | exact h4 z.2.1 | exact h15 z.2.2.1 | exact h25 z.2.2.2 | exact h37 (hlt.mp z.1)))
  · refine x_iload_n dX11_person_7 rfl rfl ?_
    refine x_bipush (v := 10) dX11_person_8 (by decide) ?_
    refine x_bipush (v := 99) dX11_person_10 (by decide) ?_
    refine x_cS3 dX11_person_12 ls_X11_92 rfl  (c_X11_isWithin ?_)
    refine x_if_eq_b (tgt := 40) dX11_person_15 (by decide) (fun h15 => ?_) (fun h15 => ?_)
    · refine x_iconst (v := -1) dX11_person_40 (by decide) ?_
      exact x_ireturn dX11_person_41 rfl rfl (hno (fun z => by first | exact h4 z.2.1 | exact h15 z.2.2.1 | exact h25 z.2.2.2 | exact h37 (hlt.mp z.1)))
    · refine x_iload_n dX11_person_18 rfl rfl ?_
      refine x_iconst (v := 0) dX11_person_19 (by decide) ?_
      refine x_bipush (v := 7) dX11_person_20 (by decide) ?_
      refine x_cS3 dX11_person_22 ls_X11_92 rfl  (c_X11_isWithin ?_)
      refine x_if_eq_b (tgt := 40) dX11_person_25 (by decide) (fun h25 => ?_) (fun h25 => ?_)
      · refine x_iconst (v := -1) dX11_person_40 (by decide) ?_
        exact x_ireturn dX11_person_41 rfl rfl (hno (fun z => by first | exact h4 z.2.1 | exact h15 z.2.2.1 | exact h25 z.2.2.2 | exact h37 (hlt.mp z.1)))
      · refine x_aload_n dX11_person_28 rfl rfl ?_
        refine x_getf dX11_person_29 lf_X11_10 (kc hi kf_0) kv_0_1 ?_
        refine x_cV0 dX11_person_32 lv_X11_100 (hD.lc 1 li_1) rfl rfl rfl (c_lsz_1 hD ?_)
        refine x_bipush (v := 24) dX11_person_35 (by decide) ?_
        refine x_icmp_lt (tgt := 42) dX11_person_37 (by decide) (fun h37 => ?_) (fun h37 => ?_)
        · refine x_aload_n dX11_person_42 rfl rfl ?_
          refine x_getf dX11_person_43 lf_X11_10 (kc hi kf_0) kv_0_1 ?_
          refine x_new (q := (_, _, _)) dX11_person_46 (show vwCl[5]? = some _ from rfl) tb237 (by decide) (fun a46 hn46 => ?_)
          refine x_dup dX11_person_49 rfl ?_
          refine x_aload_n dX11_person_50 rfl rfl ?_
          refine x_getf dX11_person_51 lf_X11_10 (by rw [mset_ne (fr_ne hn46 (kc hi kf_0))]; exact kc hi kf_0) kv_0_1 ?_
          refine x_cV0 dX11_person_54 lv_X11_100 (by rw [mset_ne (fr_ne hn46 (hD.lc 1 li_1))]; exact hD.lc 1 li_1) rfl rfl rfl  (c_lszF (k := 1) hD li_1 hn46 ?_)
          refine x_iload_n dX11_person_57 rfl rfl ?_
          refine x_iload_n dX11_person_58 rfl rfl ?_
          refine x_iload_n dX11_person_59 rfl rfl ?_
          refine x_cI4 dX11_person_60 li_X11_105 rfl rfl  (c_X4_init mset_eq ?_)
          intro f' g0 g1 g2 g3 g4
          rw [mset_mset]
          refine x_rV1 dX11_person_63 lv_X11_108 (by rw [mset_ne (fr_ne hn46 (hD.lc 1 li_1))]; exact hD.lc 1 li_1) rfl rfl rfl ⟨by decide, by decide⟩ (c_lst_add (k := 1) (pN σ a b c) hi hD li_1 (by decide) hZ hn46 rfl tb1759 (by show cn σ 15 ≤ 266; omega) hn1 (s2_of (k := 1) rfl li_1) (fun _ => s3_L (k := 1) li_1 [(2, a), (3, b), (4, c)] rfl) (fun r _ => rfl) (fun j hj => ?_) (pN_L hD.2.2.2.2.2 e1 e2) ?_)
          · match j, hj with
            | 0, _ => exact g0
            | 1, _ => rw [g1]; exact congrArg Value.int (updB_eq (f := σ.2 2)).symm
            | 2, _ => rw [g2]; exact congrArg Value.int (updB_eq (f := σ.2 3)).symm
            | 3, _ => rw [g3]; exact congrArg Value.int (updB_eq (f := σ.2 4)).symm
            | 4, _ => rw [g4]; exact congrArg (fun x => Value.int (strat x)) (updB_eq (f := σ.2 3)).symm
          intro Md' ω' ε' hD
          refine x_pop dX11_person_66 rfl ?_
          refine x_aload_n dX11_person_67 rfl rfl ?_
          refine x_getf dX11_person_68 lf_X11_10 (kc hi kf_0) kv_0_1 ?_
          refine x_cV0 dX11_person_71 lv_X11_100 (hD.lc 1 li_1) rfl rfl rfl (c_lsz_1 hD ?_)
          refine x_iconst (v := 1) dX11_person_74 (by decide) ?_
          refine x_isub dX11_person_75 ?_
          exact x_ireturn dX11_person_76 rfl rfl ((by
have hp : pPerson σ a b c := ⟨hlt.mpr h37, h4, h15, h25⟩
have h := hq Md' ω' ε'
rw [show nPerson σ a b c = pN σ a b c from cI_t hp, show aPerson σ a b c = σ.1 15 from cI_t hp] at h
refine fin (h hD) ?_
show _ = nI (cn (pN σ a b c) 15) - 1
rw [hn1, ← nI_1, add_sub1]; exact e1))
        · refine x_iconst (v := -1) dX11_person_40 (by decide) ?_
          exact x_ireturn dX11_person_41 rfl rfl (hno (fun z => by first | exact h4 z.2.1 | exact h15 z.2.2.1 | exact h25 z.2.2.2 | exact h37 (hlt.mp z.1)))
end PAD
