/-! the class, 1: lists' size and get; the world; bounds; stops, rules in force -/
def TabK (σ κ : MS) : Prop := κ.1 92 = σ.1 59 ∧ κ.1 95 = σ.1 60 ∧ (∀ i, i < cn σ 59 → κ.2 20 i = σ.2 53 i ∧ κ.2 21 i = σ.2 54 i) ∧ (∀ i, i < cn σ 60 → κ.2 22 i = σ.2 55 i ∧ κ.2 23 i = σ.2 56 i)
/-- what of the class's static cells stands for the state σ, but for the plan -/
def Kap (σ κ : MS) : Prop := κ.1 0 = σ.1 1 ∧ κ.1 81 = σ.1 24 ∧ (∀ i, i < cn σ 24 → κ.2 17 i = σ.2 18 i &&& 255) ∧ TabK σ κ ∧ (∀ p s, p < 8 → s < 4 → κ.2 (30 + p) s = σ.2 50 (4 * p + s))
def Wld (G : Gam) (τ : Nat → Nat) (ω : Nat → Nat → Nat) (ε : Nat → Nat) (σ κ : MS) (Md : Mem) : Prop := adOK τ ∧ Cnt σ ∧ Dyn G τ ω ε σ Md ∧ Kap σ κ
theorem nI_p1 {n : Nat} (h : n < 2 ^ 31) : (nI n - 1).toInt = (n : Int) - 1 := by
  cases n with
  | zero => rfl
  | succ n => rw [nI_pred, nI_toInt (by omega)]; omega
theorem le_p1 {x : Int32} {n : Nat} (h : n < 2 ^ 31) : x ≤ nI n - 1 ↔ x < nI n := by
  rw [Int32.le_iff_toInt_le, Int32.lt_iff_toInt_lt, nI_p1 h, nI_toInt h]
  omega
theorem sayUp {x : Int32} (h : 0 ≤ x ∧ x ≤ 29) : -1 ≤ x ∧ x ≤ 29 := ⟨Int32.le_trans (by decide) h.1, h.2⟩
theorem sayNN {x : Int32} (h : -1 ≤ x ∧ x ≤ 29) (hne : ¬ x = -1) : 0 ≤ x ∧ x ≤ 29 := by
  refine ⟨?_, h.2⟩
  have h1 := Int32.le_iff_toInt_le.mp h.1
  rw [Int32.le_iff_toInt_le]
  have e1 : (-1 : Int32).toInt = -1 := rfl
  have e0 : (0 : Int32).toInt = 0 := rfl
  have h2 : ¬ x.toInt = -1 := fun z => hne (Int32.toInt_inj.mp (by rw [z, e1]))
  omega
section CLA
variable {G : Gam} {d : Nat} {τ : Nat → Nat} {ω : Nat → Nat → Nat} {ε : Nat → Nat} {σ κ : MS} {Md : Mem} {M : Mem} {Q : Option Value → Mem → Prop} {k : Nat}
theorem Dyn.n400 (hD : Dyn G τ ω ε σ Md) (hk : isLi k) : cn σ (cK k) ≤ 400 := by
  obtain ⟨m, N, g, -, h | h⟩ := hD.2.1 k hk
  · have := h.1; omega
  · omega
theorem c_lsz (hD : Dyn G τ ω ε σ Md) (hk : isLi k) (hq : Q (some (.int (nI (cn σ (cK k))))) (cm τ κ Md)) : CT G d (0, 0) MJx4a65c_size_8abf5 [.ref (τ k)] (cm τ κ Md) Q := by
  obtain ⟨m, N, g, h1, -⟩ := hD.2.1 k hk
  have hM := kd (κ := κ) hD.1 h1
  refine CT.of rfl (Nat.le_of_ble_eq_true rfl) ?_
  refine x_aload_n dJx4a65c_size_8abf5_0 rfl rfl ?_
  refine x_getf dJx4a65c_size_8abf5_1 lf_Jx4a65c_48 hM rfl ?_
  exact x_ireturn dJx4a65c_size_8abf5_4 rfl rfl (hq)
theorem c_lsz_1 (hD : Dyn G τ ω ε σ Md) (hq : Q (some (.int (nI (cn σ 15)))) (cm τ κ Md)) : CT G d (0, 0) MJx4a65c_size_8abf5 [.ref (τ 1)] (cm τ κ Md) Q := c_lsz (k := 1) hD li_1 hq
theorem c_lsz_2 (hD : Dyn G τ ω ε σ Md) (hq : Q (some (.int (nI (cn σ 16)))) (cm τ κ Md)) : CT G d (0, 0) MJx4a65c_size_8abf5 [.ref (τ 2)] (cm τ κ Md) Q := c_lsz (k := 2) hD li_2 hq
theorem c_lsz_3 (hD : Dyn G τ ω ε σ Md) (hq : Q (some (.int (nI (cn σ 17)))) (cm τ κ Md)) : CT G d (0, 0) MJx4a65c_size_8abf5 [.ref (τ 3)] (cm τ κ Md) Q := c_lsz (k := 3) hD li_3 hq
theorem c_lsz_4 (hD : Dyn G τ ω ε σ Md) (hq : Q (some (.int (nI (cn σ 25)))) (cm τ κ Md)) : CT G d (0, 0) MJx4a65c_size_8abf5 [.ref (τ 4)] (cm τ κ Md) Q := c_lsz (k := 4) hD li_4 hq
theorem c_lsz_5 (hD : Dyn G τ ω ε σ Md) (hq : Q (some (.int (nI (cn σ 44)))) (cm τ κ Md)) : CT G d (0, 0) MJx4a65c_size_8abf5 [.ref (τ 5)] (cm τ κ Md) Q := c_lsz (k := 5) hD li_5 hq
theorem c_lsz_6 (hD : Dyn G τ ω ε σ Md) (hq : Q (some (.int (nI (cn σ 49)))) (cm τ κ Md)) : CT G d (0, 0) MJx4a65c_size_8abf5 [.ref (τ 6)] (cm τ κ Md) Q := c_lsz (k := 6) hD li_6 hq
theorem c_lsz_7 (hD : Dyn G τ ω ε σ Md) (hq : Q (some (.int (nI (cn σ 65)))) (cm τ κ Md)) : CT G d (0, 0) MJx4a65c_size_8abf5 [.ref (τ 7)] (cm τ κ Md) Q := c_lsz (k := 7) hD li_7 hq
theorem c_J3_checkIndex {i n : Nat} (hn : n < 2 ^ 31) (hi : i < n) (hq : Q (some (.int (nI i))) M) : CT G d (0, 0) MJ3_checkIndex_8e157 [.int (nI i), .int (nI n), .null] M Q := by
  refine CT.of rfl (Nat.le_of_ble_eq_true rfl) ?_
  refine x_iload_n dJ3_checkIndex_8e157_0 rfl rfl ?_
  refine x_if_lt (tgt := 9) dJ3_checkIndex_8e157_1 (by decide) (fun z => absurd z (nI_pos (by omega))) (fun _ => ?_)
  refine x_iload_n dJ3_checkIndex_8e157_4 rfl rfl ?_
  refine x_iload_n dJ3_checkIndex_8e157_5 rfl rfl ?_
  refine x_icmp_lt (tgt := 16) dJ3_checkIndex_8e157_6 (by decide) (fun _ => ?_) (fun z => absurd (nI_lt hi hn) z)
  refine x_iload_n dJ3_checkIndex_8e157_16 rfl rfl ?_
  exact x_ireturn dJ3_checkIndex_8e157_17 rfl rfl (hq)
theorem c_J15_checkIndex {i n : Nat} (hn : n < 2 ^ 31) (hi : i < n) (hq : Q (some (.int (nI i))) M) : CT G (d + 1) (0, 0) MJ15_checkIndex_7cf53 [.int (nI i), .int (nI n)] M Q := by
  refine CT.of rfl (Nat.le_of_ble_eq_true rfl) ?_
  refine x_iload_n dJ15_checkIndex_7cf53_0 rfl rfl ?_
  refine x_iload_n dJ15_checkIndex_7cf53_1 rfl rfl ?_
  refine x_null dJ15_checkIndex_7cf53_2 ?_
  refine x_cS3 dJ15_checkIndex_7cf53_3 ls_J15_105 rfl  (c_J3_checkIndex hn hi ?_)
  exact x_ireturn dJ15_checkIndex_7cf53_6 rfl rfl (hq)
theorem c_lel {i : Nat} (hD : Dyn G τ ω ε σ Md) (hk : isLi k) (hi : i < cn σ (cK k)) (hq : Q (some (.ref (ω k i))) (cm τ κ Md)) : CT G d (0, 0) MJx4a65c_elementData_915e3 [.ref (τ k), .int (nI i)] (cm τ κ Md) Q := by
  have h400 := hD.n400 hk
  obtain ⟨m, N, g, h1, h2 | ⟨h2, h3, -, h5, h4⟩⟩ := hD.2.1 k hk
  · exact absurd hi (by rw [h2.1]; exact Nat.not_lt_zero _)
  · have hM := kd (κ := κ) hD.1 h1
    have hM2 := kd (κ := κ) hD.1 h2
    have hcl : (nI i).toNatClampNeg = i := nI_clamp (by omega)
    refine CT.of rfl (Nat.le_of_ble_eq_true rfl) ?_
    refine x_aload_n dJx4a65c_elementData_915e3_0 rfl rfl ?_
    refine x_getf dJx4a65c_elementData_915e3_1 lf_Jx4a65c_9 hM rfl ?_
    refine x_iload_n dJx4a65c_elementData_915e3_4 rfl rfl ?_
    refine x_aaload dJx4a65c_elementData_915e3_5 (by decide) hM2 (vp_in_nI (by omega) (by omega)) (show g (nI i).toNatClampNeg = .ref (ω k i) by rw [hcl]; exact h4 i hi) ?_
    exact x_areturn dJx4a65c_elementData_915e3_6 rfl (Or.inl ⟨_, rfl⟩) (Or.inr ⟨_, rfl⟩) (hq)
theorem c_lget {i : Nat} (hD : Dyn G τ ω ε σ Md) (hk : isLi k) (hi : i < cn σ (cK k)) (hq : Q (some (.ref (ω k i))) (cm τ κ Md)) : CT G (d + 2) (0, 0) MJx4a65c_get_915e3 [.ref (τ k), .int (nI i)] (cm τ κ Md) Q := by
  have h400 := hD.n400 hk
  obtain ⟨m, N, g, h1, -⟩ := hD.2.1 k hk
  have hM := kd (κ := κ) hD.1 h1
  refine CT.of rfl (Nat.le_of_ble_eq_true rfl) ?_
  refine x_iload_n dJx4a65c_get_915e3_0 rfl rfl ?_
  refine x_aload_n dJx4a65c_get_915e3_1 rfl rfl ?_
  refine x_getf dJx4a65c_get_915e3_2 lf_Jx4a65c_48 hM rfl ?_
  refine x_cS2 dJx4a65c_get_915e3_5 ls_Jx4a65c_118 rfl  (c_J15_checkIndex (by omega) hi ?_)
  refine x_pop dJx4a65c_get_915e3_8 rfl ?_
  refine x_aload_n dJx4a65c_get_915e3_9 rfl rfl ?_
  refine x_iload_n dJx4a65c_get_915e3_10 rfl rfl ?_
  refine x_cV1 dJx4a65c_get_915e3_11 lv_Jx4a65c_123 hM rfl rfl rfl  (c_lel hD hk hi ?_)
  exact x_areturn dJx4a65c_get_915e3_14 rfl (Or.inl ⟨_, rfl⟩) (Or.inr ⟨_, rfl⟩) (hq)
theorem c_X11_isWithin {v a b : Int32} (hq : Q (some (.int (bI (a ≤ v ∧ v ≤ b)))) M) : CT G d (0, 0) MX11_isWithin [.int v, .int a, .int b] M Q := by
  refine CT.of rfl (Nat.le_of_ble_eq_true rfl) ?_
  refine x_iload_n dX11_isWithin_0 rfl rfl ?_
  refine x_iload_n dX11_isWithin_1 rfl rfl ?_
  refine x_icmp_lt (tgt := 14) dX11_isWithin_2 (by decide) (fun h2 => ?_) (fun h2 => ?_)
  · refine x_iconst (v := 0) dX11_isWithin_14 (by decide) ?_
    exact x_ireturn dX11_isWithin_15 rfl rfl (by first | (rw [bI_t ⟨Int32.not_lt.mp h2, Int32.not_lt.mp h7⟩] at hq; exact hq) | (rw [bI_f (fun z => absurd h2 (Int32.not_lt.mpr z.1))] at hq; exact hq) | (rw [bI_f (fun z => absurd h7 (Int32.not_lt.mpr z.2))] at hq; exact hq))
  · refine x_iload_n dX11_isWithin_5 rfl rfl ?_
    refine x_iload_n dX11_isWithin_6 rfl rfl ?_
    refine x_icmp_gt (tgt := 14) dX11_isWithin_7 (by decide) (fun h7 => ?_) (fun h7 => ?_)
    · refine x_iconst (v := 0) dX11_isWithin_14 (by decide) ?_
      exact x_ireturn dX11_isWithin_15 rfl rfl (by first | (rw [bI_t ⟨Int32.not_lt.mp h2, Int32.not_lt.mp h7⟩] at hq; exact hq) | (rw [bI_f (fun z => absurd h2 (Int32.not_lt.mpr z.1))] at hq; exact hq) | (rw [bI_f (fun z => absurd h7 (Int32.not_lt.mpr z.2))] at hq; exact hq))
    · refine x_iconst (v := 1) dX11_isWithin_10 (by decide) ?_
      refine x_goto (tgt := 15) dX11_isWithin_11 (by decide) ?_
      exact x_ireturn dX11_isWithin_15 rfl rfl (by first | (rw [bI_t ⟨Int32.not_lt.mp h2, Int32.not_lt.mp h7⟩] at hq; exact hq) | (rw [bI_f (fun z => absurd h2 (Int32.not_lt.mpr z.1))] at hq; exact hq) | (rw [bI_f (fun z => absurd h7 (Int32.not_lt.mpr z.2))] at hq; exact hq))
theorem c_X11_isDay {v : Int32} (hq : Q (some (.int (bI (0 ≤ v ∧ v ≤ 1000)))) M) : CT G (d + 1) (0, 0) MX11_isDay [.int v] M Q := by
  refine CT.of rfl (Nat.le_of_ble_eq_true rfl) ?_
  refine x_iload_n dX11_isDay_0 rfl rfl ?_
  refine x_iconst (v := 0) dX11_isDay_1 (by decide) ?_
  refine x_sipush (v := 1000) dX11_isDay_2 (by decide) ?_
  refine x_cS3 dX11_isDay_5 ls_X11_92 rfl  (c_X11_isWithin ?_)
  exact x_ireturn dX11_isDay_8 rfl bI_nar (hq)
theorem c_X11_isPlace {v : Int32} (hq : Q (some (.int (bI (0 ≤ v ∧ v ≤ 7)))) M) : CT G (d + 1) (0, 0) MX11_isPlace [.int v] M Q := by
  refine CT.of rfl (Nat.le_of_ble_eq_true rfl) ?_
  refine x_iload_n dX11_isPlace_0 rfl rfl ?_
  refine x_iconst (v := 0) dX11_isPlace_1 (by decide) ?_
  refine x_bipush (v := 7) dX11_isPlace_2 (by decide) ?_
  refine x_cS3 dX11_isPlace_4 ls_X11_92 rfl  (c_X11_isWithin ?_)
  exact x_ireturn dX11_isPlace_7 rfl bI_nar (hq)
theorem c_X11_isSort {v : Int32} (hq : Q (some (.int (bI (0 ≤ v ∧ v ≤ 9)))) M) : CT G (d + 1) (0, 0) MX11_isSort [.int v] M Q := by
  refine CT.of rfl (Nat.le_of_ble_eq_true rfl) ?_
  refine x_iload_n dX11_isSort_0 rfl rfl ?_
  refine x_iconst (v := 0) dX11_isSort_1 (by decide) ?_
  refine x_bipush (v := 9) dX11_isSort_2 (by decide) ?_
  refine x_cS3 dX11_isSort_4 ls_X11_92 rfl  (c_X11_isWithin ?_)
  exact x_ireturn dX11_isSort_7 rfl bI_nar (hq)
theorem c_X11_isSaying {v : Int32} (hq : Q (some (.int (bI (0 ≤ v ∧ v ≤ 29)))) M) : CT G (d + 1) (0, 0) MX11_isSaying [.int v] M Q := by
  refine CT.of rfl (Nat.le_of_ble_eq_true rfl) ?_
  refine x_iload_n dX11_isSaying_0 rfl rfl ?_
  refine x_iconst (v := 0) dX11_isSaying_1 (by decide) ?_
  refine x_bipush (v := 29) dX11_isSaying_2 (by decide) ?_
  refine x_cS3 dX11_isSaying_4 ls_X11_92 rfl  (c_X11_isWithin ?_)
  exact x_ireturn dX11_isSaying_7 rfl bI_nar (hq)
theorem c_X11_isRank {v : Int32} (hq : Q (some (.int (bI (0 ≤ v ∧ v ≤ 9)))) M) : CT G (d + 1) (0, 0) MX11_isRank [.int v] M Q := by
  refine CT.of rfl (Nat.le_of_ble_eq_true rfl) ?_
  refine x_iload_n dX11_isRank_0 rfl rfl ?_
  refine x_iconst (v := 0) dX11_isRank_1 (by decide) ?_
  refine x_bipush (v := 9) dX11_isRank_2 (by decide) ?_
  refine x_cS3 dX11_isRank_4 ls_X11_92 rfl  (c_X11_isWithin ?_)
  exact x_ireturn dX11_isRank_7 rfl bI_nar (hq)
theorem c_X11_isReader {v : Int32} (hq : Q (some (.int (bI (0 ≤ v ∧ v ≤ 5)))) M) : CT G (d + 1) (0, 0) MX11_isReader [.int v] M Q := by
  refine CT.of rfl (Nat.le_of_ble_eq_true rfl) ?_
  refine x_iload_n dX11_isReader_0 rfl rfl ?_
  refine x_iconst (v := 0) dX11_isReader_1 (by decide) ?_
  refine x_iconst (v := 5) dX11_isReader_2 (by decide) ?_
  refine x_cS3 dX11_isReader_3 ls_X11_92 rfl  (c_X11_isWithin ?_)
  exact x_ireturn dX11_isReader_6 rfl bI_nar (hq)
theorem c_X11_isHour {v : Int32} (hq : Q (some (.int (bI (0 ≤ v ∧ v ≤ 23)))) M) : CT G (d + 1) (0, 0) MX11_isHour [.int v] M Q := by
  refine CT.of rfl (Nat.le_of_ble_eq_true rfl) ?_
  refine x_iload_n dX11_isHour_0 rfl rfl ?_
  refine x_iconst (v := 0) dX11_isHour_1 (by decide) ?_
  refine x_bipush (v := 23) dX11_isHour_2 (by decide) ?_
  refine x_cS3 dX11_isHour_4 ls_X11_92 rfl  (c_X11_isWithin ?_)
  exact x_ireturn dX11_isHour_7 rfl bI_nar (hq)
theorem c_X11_isCoin {v : Int32} (hq : Q (some (.int (bI (0 ≤ v ∧ v ≤ 400)))) M) : CT G (d + 1) (0, 0) MX11_isCoin [.int v] M Q := by
  refine CT.of rfl (Nat.le_of_ble_eq_true rfl) ?_
  refine x_iload_n dX11_isCoin_0 rfl rfl ?_
  refine x_iconst (v := 0) dX11_isCoin_1 (by decide) ?_
  refine x_sipush (v := 400) dX11_isCoin_2 (by decide) ?_
  refine x_cS3 dX11_isCoin_5 ls_X11_92 rfl  (c_X11_isWithin ?_)
  exact x_ireturn dX11_isCoin_8 rfl bI_nar (hq)
theorem c_X11_isPerson {v : Int32} (hW : Wld G τ ω ε σ κ Md) (hq : Q (some (.int (bI (isP σ v)))) (cm τ κ Md)) : CT G (d + 1) (0, 0) MX11_isPerson [.ref (τ 0), .int v] (cm τ κ Md) Q := by
  obtain ⟨hi, hc, hD, hK⟩ := hW
  obtain ⟨hl1, hl2⟩ := hc.b 15 (b := 24) (by decide)
  refine CT.of rfl (Nat.le_of_ble_eq_true rfl) ?_
  refine x_iload_n dX11_isPerson_0 rfl rfl ?_
  refine x_iconst (v := 0) dX11_isPerson_1 (by decide) ?_
  refine x_aload_n dX11_isPerson_2 rfl rfl ?_
  refine x_getf dX11_isPerson_3 lf_X11_10 (kc hi kf_0) kv_0_1 ?_
  refine x_cV0 dX11_isPerson_6 lv_X11_100 (hD.lc 1 li_1) rfl rfl rfl (c_lsz_1 hD ?_)
  refine x_iconst (v := 1) dX11_isPerson_9 (by decide) ?_
  refine x_isub dX11_isPerson_10 ?_
  refine x_cS3 dX11_isPerson_11 ls_X11_92 rfl  (c_X11_isWithin ?_)
  exact x_ireturn dX11_isPerson_14 rfl bI_nar (by
rw [bI_c (Q := 0 ≤ v ∧ v ≤ nI (cn σ 15) - 1) (by
  rw [le_p1 (by omega), ← hl1]; exact Iff.rfl)] at hq
exact hq)
theorem c_X11_isLine {v : Int32} (hW : Wld G τ ω ε σ κ Md) (hq : Q (some (.int (bI (isL σ v)))) (cm τ κ Md)) : CT G (d + 1) (0, 0) MX11_isLine [.ref (τ 0), .int v] (cm τ κ Md) Q := by
  obtain ⟨hi, hc, hD, hK⟩ := hW
  obtain ⟨hl1, hl2⟩ := hc.b 16 (b := 200) (by decide)
  refine CT.of rfl (Nat.le_of_ble_eq_true rfl) ?_
  refine x_iload_n dX11_isLine_0 rfl rfl ?_
  refine x_iconst (v := 0) dX11_isLine_1 (by decide) ?_
  refine x_aload_n dX11_isLine_2 rfl rfl ?_
  refine x_getf dX11_isLine_3 lf_X11_16 (kc hi kf_0) kv_0_2 ?_
  refine x_cV0 dX11_isLine_6 lv_X11_100 (hD.lc 2 li_2) rfl rfl rfl (c_lsz_2 hD ?_)
  refine x_iconst (v := 1) dX11_isLine_9 (by decide) ?_
  refine x_isub dX11_isLine_10 ?_
  refine x_cS3 dX11_isLine_11 ls_X11_92 rfl  (c_X11_isWithin ?_)
  exact x_ireturn dX11_isLine_14 rfl bI_nar (by
rw [bI_c (Q := 0 ≤ v ∧ v ≤ nI (cn σ 16) - 1) (by
  rw [le_p1 (by omega), ← hl1]; exact Iff.rfl)] at hq
exact hq)
theorem c_X11_isLotSize {v : Int32} (hW : Wld G τ ω ε σ κ Md) (hq : Q (some (.int (bI (1 ≤ v ∧ v ≤ σ.1 15)))) (cm τ κ Md)) : CT G (d + 1) (0, 0) MX11_isLotSize [.ref (τ 0), .int v] (cm τ κ Md) Q := by
  obtain ⟨hi, hc, hD, hK⟩ := hW
  obtain ⟨hl1, hl2⟩ := hc.b 15 (b := 24) (by decide)
  rw [hl1] at hq
  refine CT.of rfl (Nat.le_of_ble_eq_true rfl) ?_
  refine x_iload_n dX11_isLotSize_0 rfl rfl ?_
  refine x_iconst (v := 1) dX11_isLotSize_1 (by decide) ?_
  refine x_aload_n dX11_isLotSize_2 rfl rfl ?_
  refine x_getf dX11_isLotSize_3 lf_X11_10 (kc hi kf_0) kv_0_1 ?_
  refine x_cV0 dX11_isLotSize_6 lv_X11_100 (hD.lc 1 li_1) rfl rfl rfl (c_lsz_1 hD ?_)
  refine x_cS3 dX11_isLotSize_9 ls_X11_92 rfl  (c_X11_isWithin ?_)
  exact x_ireturn dX11_isLotSize_12 rfl bI_nar (hq)
theorem c_X11_isKnownDay {q : Int32} (hW : Wld G τ ω ε σ κ Md) (hq : Q (some (.int (bI (isK σ q)))) (cm τ κ Md)) : CT G (d + 1) (0, 0) MX11_isKnownDay [.ref (τ 0), .int q] (cm τ κ Md) Q := by
  obtain ⟨hi, hc, hD, hK⟩ := hW
  refine CT.of rfl (Nat.le_of_ble_eq_true rfl) ?_
  refine x_iload_n dX11_isKnownDay_0 rfl rfl ?_
  refine x_iconst (v := 0) dX11_isKnownDay_1 (by decide) ?_
  refine x_aload_n dX11_isKnownDay_2 rfl rfl ?_
  refine x_getf dX11_isKnownDay_3 lf_X11_88 (kc hi kf_0) kv_0_0 ?_
  rw [hK.1]
  refine x_cS3 dX11_isKnownDay_6 ls_X11_92 rfl  (c_X11_isWithin ?_)
  exact x_ireturn dX11_isKnownDay_9 rfl bI_nar (hq)
theorem c_X11_isLineKnown {l q : Int32} (hW : Wld G τ ω ε σ κ Md) (hq : Q (some (.int (bI (isLB σ l q)))) (cm τ κ Md)) : CT G (d + 3) (0, 0) MX11_isLineKnown [.ref (τ 0), .int l, .int q] (cm τ κ Md) Q := by
  have hW' := hW
  obtain ⟨hi, hc, hD, hK⟩ := hW
  obtain ⟨hl1, hl2⟩ := hc.b 16 (b := 200) (by decide)
  refine CT.of rfl (Nat.le_of_ble_eq_true rfl) ?_
  refine x_aload_n dX11_isLineKnown_0 rfl rfl ?_
  refine x_iload_n dX11_isLineKnown_1 rfl rfl ?_
  refine x_cV1 dX11_isLineKnown_2 lv_X11_136 (kc hi kf_0) rfl rfl rfl  (c_X11_isLine hW' ?_)
  refine x_if_eq_b (tgt := 38) dX11_isLineKnown_5 (by decide) (fun h5 => ?_) (fun h5 => ?_)
  · refine x_iconst (v := 0) dX11_isLineKnown_38 (by decide) ?_
    exact x_ireturn dX11_isLineKnown_39 rfl rfl (fin hq (by
first
| exact bI_f (fun z => h5 z.1)
| exact bI_f (fun z => h13 z.2.1)
| exact bI_t ⟨h5, h13, by rw [hcl]; exact Int32.not_lt.mp h31⟩
| exact bI_f (fun z => absurd (show σ.2 14 j ≤ q by have := z.2.2; rw [hcl] at this; exact this) (Int32.not_le.mpr h31))))
  · refine x_aload_n dX11_isLineKnown_8 rfl rfl ?_
    refine x_iload_n dX11_isLineKnown_9 rfl rfl ?_
    refine x_cV1 dX11_isLineKnown_10 lv_X11_158 (kc hi kf_0) rfl rfl rfl  (c_X11_isKnownDay hW' ?_)
    refine x_if_eq_b (tgt := 38) dX11_isLineKnown_13 (by decide) (fun h13 => ?_) (fun h13 => ?_)
    · refine x_iconst (v := 0) dX11_isLineKnown_38 (by decide) ?_
      exact x_ireturn dX11_isLineKnown_39 rfl rfl (fin hq (by
first
| exact bI_f (fun z => h5 z.1)
| exact bI_f (fun z => h13 z.2.1)
| exact bI_t ⟨h5, h13, by rw [hcl]; exact Int32.not_lt.mp h31⟩
| exact bI_f (fun z => absurd (show σ.2 14 j ≤ q by have := z.2.2; rw [hcl] at this; exact this) (Int32.not_le.mpr h31))))
    · obtain ⟨j, hj, rfl⟩ := of_lt h5.1 h5.2 hl1 (by omega)
      have hcl : (nI j).toNatClampNeg = j := nI_clamp (by omega)
      refine x_aload_n dX11_isLineKnown_16 rfl rfl ?_
      refine x_getf dX11_isLineKnown_17 lf_X11_16 (kc hi kf_0) kv_0_2 ?_
      refine x_iload_n dX11_isLineKnown_20 rfl rfl ?_
      refine x_cV1 dX11_isLineKnown_21 lv_X11_126 (hD.lc 2 li_2) rfl rfl rfl (c_lget (k := 2) hD li_2 hj ?_)
      refine x_cast (q := (_, _, _)) dX11_isLineKnown_24 (show vwCl[2]? = some _ from rfl) tb367 (ob_2 hD hj) ?_
      refine x_getf dX11_isLineKnown_27 lf_X11_315 (ob_2 hD hj) ov_2_6 ?_
      refine x_iload_n dX11_isLineKnown_30 rfl rfl ?_
      refine x_icmp_gt (tgt := 38) dX11_isLineKnown_31 (by decide) (fun h31 => ?_) (fun h31 => ?_)
      · refine x_iconst (v := 0) dX11_isLineKnown_38 (by decide) ?_
        exact x_ireturn dX11_isLineKnown_39 rfl rfl (fin hq (by
first
| exact bI_f (fun z => h5 z.1)
| exact bI_f (fun z => h13 z.2.1)
| exact bI_t ⟨h5, h13, by rw [hcl]; exact Int32.not_lt.mp h31⟩
| exact bI_f (fun z => absurd (show σ.2 14 j ≤ q by have := z.2.2; rw [hcl] at this; exact this) (Int32.not_le.mpr h31))))
      · refine x_iconst (v := 1) dX11_isLineKnown_34 (by decide) ?_
        refine x_goto (tgt := 39) dX11_isLineKnown_35 (by decide) ?_
        exact x_ireturn dX11_isLineKnown_39 rfl rfl (fin hq (by
first
| exact bI_f (fun z => h5 z.1)
| exact bI_f (fun z => h13 z.2.1)
| exact bI_t ⟨h5, h13, by rw [hcl]; exact Int32.not_lt.mp h31⟩
| exact bI_f (fun z => absurd (show σ.2 14 j ≤ q by have := z.2.2; rw [hcl] at this; exact this) (Int32.not_le.mpr h31))))
theorem c_X11_stopDayOf {p q : Int32} (hW : Wld G τ ω ε σ κ Md) (hq : Q (some (.int (spStop σ p q (cn σ 17)))) (cm τ κ Md)) : CT G (d + 3) (0, 0) MX11_stopDayOf [.ref (τ 0), .int p, .int q] (cm τ κ Md) Q := by
  obtain ⟨hi, hc, hD, hK⟩ := hW
  obtain ⟨hl1, hl2⟩ := hc.b 17 (b := 60) (by decide)
  refine CT.of rfl (Nat.le_of_ble_eq_true rfl) ?_
  have H : ∀ n, n ≤ cn σ 17 → Q (some (.int (spStop σ p q n))) (cm τ κ Md) → XJ G (d + 3) (0, 0) MX11_stopDayOf (cm τ κ Md) [(0, .ref (τ 0)), (1, .int p), (2, .int q), (3, .int (nI n - 1))] [] 10 Q := by
    intro n
    induction n with
    | zero =>
      intro _ hq
      refine x_iload_n dX11_stopDayOf_10 rfl rfl ?_
      refine x_if_lt (tgt := 57) dX11_stopDayOf_11 (by decide) (fun _ => ?_) (fun z => absurd (by decide) z)
      refine x_iconst (v := -1) dX11_stopDayOf_57 (by decide) ?_
      exact x_ireturn dX11_stopDayOf_58 rfl rfl (hq)
    | succ n ih =>
      intro hn hq
      rw [nI_pred]
      have hlt : n < cn σ 17 := hn
      have e : spStop σ p q (n + 1) = if σ.2 5 n = p ∧ σ.2 7 n ≤ q then σ.2 6 n else spStop σ p q n := rfl
      rw [e] at hq
      refine x_iload_n dX11_stopDayOf_10 rfl rfl ?_
      refine x_if_lt (tgt := 57) dX11_stopDayOf_11 (by decide) (fun z => absurd z (nI_pos (by omega))) (fun _ => ?_)
      refine x_aload_n dX11_stopDayOf_14 rfl rfl ?_
      refine x_getf dX11_stopDayOf_15 lf_X11_19 (kc hi kf_0) kv_0_3 ?_
      refine x_iload_n dX11_stopDayOf_18 rfl rfl ?_
      refine x_cV1 dX11_stopDayOf_19 lv_X11_126 (hD.lc 3 li_3) rfl rfl rfl (c_lget (k := 3) hD li_3 hlt ?_)
      refine x_cast (q := (_, _, _)) dX11_stopDayOf_22 (show vwCl[8]? = some _ from rfl) tb366 (ob_3 hD hlt) ?_
      refine x_astore dX11_stopDayOf_25 (by decide) ?_
      refine x_aload dX11_stopDayOf_27 rfl ?_
      refine x_getf dX11_stopDayOf_29 lf_X11_165 (ob_3 hD hlt) ov_3_0 ?_
      refine x_iload_n dX11_stopDayOf_32 rfl rfl ?_
      refine x_icmp_ne (tgt := 51) dX11_stopDayOf_33 (by decide) (fun h33 => ?_) (fun h33 => ?_)
      · refine x_iinc (c := -1) dX11_stopDayOf_51 rfl (by decide) ?_
        refine x_goto (tgt := 10) dX11_stopDayOf_54 (by decide) ?_
        rw [if_neg (fun z => by
          first
          | exact h33 z.1
          | exact absurd z.2 (Int32.not_le.mpr h42))] at hq
        refine x_loc _ (?_ : lle _ _) (ih (by omega) hq)
        refine ⟨rfl, rfl, rfl, ?_, trivial⟩
        show some (Value.int (nI n + -1)) = some (Value.int (nI n - 1))
        rw [Int32.sub_eq_add_neg]
      · refine x_aload dX11_stopDayOf_36 rfl ?_
        refine x_getf dX11_stopDayOf_38 lf_X11_168 (ob_3 hD hlt) ov_3_2 ?_
        refine x_iload_n dX11_stopDayOf_41 rfl rfl ?_
        refine x_icmp_gt (tgt := 51) dX11_stopDayOf_42 (by decide) (fun h42 => ?_) (fun h42 => ?_)
        · refine x_iinc (c := -1) dX11_stopDayOf_51 rfl (by decide) ?_
          refine x_goto (tgt := 10) dX11_stopDayOf_54 (by decide) ?_
          rw [if_neg (fun z => by
            first
            | exact h33 z.1
            | exact absurd z.2 (Int32.not_le.mpr h42))] at hq
          refine x_loc _ (?_ : lle _ _) (ih (by omega) hq)
          refine ⟨rfl, rfl, rfl, ?_, trivial⟩
          show some (Value.int (nI n + -1)) = some (Value.int (nI n - 1))
          rw [Int32.sub_eq_add_neg]
        · refine x_aload dX11_stopDayOf_45 rfl ?_
          refine x_getf dX11_stopDayOf_47 lf_X11_171 (ob_3 hD hlt) ov_3_1 ?_
          exact x_ireturn dX11_stopDayOf_50 rfl rfl (by rw [if_pos ⟨h33, Int32.not_lt.mp h42⟩] at hq; exact hq)
  refine x_aload_n dX11_stopDayOf_0 rfl rfl ?_
  refine x_getf dX11_stopDayOf_1 lf_X11_19 (kc hi kf_0) kv_0_3 ?_
  refine x_cV0 dX11_stopDayOf_4 lv_X11_100 (hD.lc 3 li_3) rfl rfl rfl (c_lsz_3 hD ?_)
  refine x_iconst (v := 1) dX11_stopDayOf_7 (by decide) ?_
  refine x_isub dX11_stopDayOf_8 ?_
  refine x_istore_n dX11_stopDayOf_9 rfl (by decide) ?_
  refine x_loc _ (?_ : lle _ _) (H (cn σ 17) (Nat.le_refl _) hq)
  exact ⟨rfl, rfl, rfl, rfl, trivial⟩
theorem c_X11_hasStoppedBy {p day q : Int32} (hW : Wld G τ ω ε σ κ Md) (hq : Q (some (.int (bI (isG σ p day q)))) (cm τ κ Md)) : CT G (d + 4) (0, 0) MX11_hasStoppedBy [.ref (τ 0), .int p, .int day, .int q] (cm τ κ Md) Q := by
  have hi := hW.1
  refine CT.of rfl (Nat.le_of_ble_eq_true rfl) ?_
  refine x_aload_n dX11_hasStoppedBy_0 rfl rfl ?_
  refine x_iload_n dX11_hasStoppedBy_1 rfl rfl ?_
  refine x_iload_n dX11_hasStoppedBy_2 rfl rfl ?_
  refine x_cV2 dX11_hasStoppedBy_3 lv_X11_161 (kc hi kf_0) rfl rfl rfl  (c_X11_stopDayOf hW ?_)
  refine x_istore dX11_hasStoppedBy_6 (by decide) ?_
  refine x_iload dX11_hasStoppedBy_8 rfl ?_
  refine x_iconst (v := -1) dX11_hasStoppedBy_10 (by decide) ?_
  refine x_icmp_eq (tgt := 24) dX11_hasStoppedBy_11 (by decide) (fun h11 => ?_) (fun h11 => ?_)
  · refine x_iconst (v := 0) dX11_hasStoppedBy_24 (by decide) ?_
    exact x_ireturn dX11_hasStoppedBy_25 rfl rfl (fin hq (by
first
| exact bI_f (fun z => z.1 h11)
| exact bI_t ⟨h11, Int32.not_lt.mp h17⟩
| exact bI_f (fun z => absurd z.2 (Int32.not_le.mpr h17))))
  · refine x_iload dX11_hasStoppedBy_14 rfl ?_
    refine x_iload_n dX11_hasStoppedBy_16 rfl rfl ?_
    refine x_icmp_gt (tgt := 24) dX11_hasStoppedBy_17 (by decide) (fun h17 => ?_) (fun h17 => ?_)
    · refine x_iconst (v := 0) dX11_hasStoppedBy_24 (by decide) ?_
      exact x_ireturn dX11_hasStoppedBy_25 rfl rfl (fin hq (by
first
| exact bI_f (fun z => z.1 h11)
| exact bI_t ⟨h11, Int32.not_lt.mp h17⟩
| exact bI_f (fun z => absurd z.2 (Int32.not_le.mpr h17))))
    · refine x_iconst (v := 1) dX11_hasStoppedBy_20 (by decide) ?_
      refine x_goto (tgt := 25) dX11_hasStoppedBy_21 (by decide) ?_
      exact x_ireturn dX11_hasStoppedBy_25 rfl rfl (fin hq (by
first
| exact bI_f (fun z => z.1 h11)
| exact bI_t ⟨h11, Int32.not_lt.mp h17⟩
| exact bI_f (fun z => absurd z.2 (Int32.not_le.mpr h17))))
theorem c_X11_stopped {p q : Int32} (hW : Wld G τ ω ε σ κ Md) (hq : Q (some (.int (aStopped σ p q))) (cm τ κ Md)) : CT G (d + 4) (0, 0) MX11_stopped [.ref (τ 0), .int p, .int q] (cm τ κ Md) Q := by
  have hi := hW.1
  refine CT.of rfl (Nat.le_of_ble_eq_true rfl) ?_
  refine x_aload_n dX11_stopped_0 rfl rfl ?_
  refine x_iload_n dX11_stopped_1 rfl rfl ?_
  refine x_cV1 dX11_stopped_2 lv_X11_112 (kc hi kf_0) rfl rfl rfl  (c_X11_isPerson hW ?_)
  refine x_if_eq_b (tgt := 16) dX11_stopped_5 (by decide) (fun h5 => ?_) (fun h5 => ?_)
  · refine x_iconst (v := -1) dX11_stopped_16 (by decide) ?_
    exact x_ireturn dX11_stopped_17 rfl rfl (by first | exact fan_t hq ⟨h5, h13⟩ | exact fan_f hq (fun z => h5 z.1) | exact fan_f hq (fun z => h13 z.2))
  · refine x_aload_n dX11_stopped_8 rfl rfl ?_
    refine x_iload_n dX11_stopped_9 rfl rfl ?_
    refine x_cV1 dX11_stopped_10 lv_X11_158 (kc hi kf_0) rfl rfl rfl  (c_X11_isKnownDay hW ?_)
    refine x_if_ne_b (tgt := 18) dX11_stopped_13 (by decide) (fun h13 => ?_) (fun h13 => ?_)
    · refine x_aload_n dX11_stopped_18 rfl rfl ?_
      refine x_iload_n dX11_stopped_19 rfl rfl ?_
      refine x_iload_n dX11_stopped_20 rfl rfl ?_
      refine x_cV2 dX11_stopped_21 lv_X11_161 (kc hi kf_0) rfl rfl rfl  (c_X11_stopDayOf hW ?_)
      exact x_ireturn dX11_stopped_24 rfl rfl (by first | exact fan_t hq ⟨h5, h13⟩ | exact fan_f hq (fun z => h5 z.1) | exact fan_f hq (fun z => h13 z.2))
    · refine x_iconst (v := -1) dX11_stopped_16 (by decide) ?_
      exact x_ireturn dX11_stopped_17 rfl rfl (by first | exact fan_t hq ⟨h5, h13⟩ | exact fan_f hq (fun z => h5 z.1) | exact fan_f hq (fun z => h13 z.2))
theorem c_X11_isHearing {p say src : Int32} (hW : Wld G τ ω ε σ κ Md) (hq : Q (some (.int (bI ((-1 ≤ say ∧ say ≤ 29) ∧ (src = -1 ∨ (isP σ src ∧ src ≠ p ∧ say ≠ -1)))))) (cm τ κ Md)) : CT G (d + 2) (0, 0) MX11_isHearing [.ref (τ 0), .int p, .int say, .int src] (cm τ κ Md) Q := by
  have hi := hW.1
  refine CT.of rfl (Nat.le_of_ble_eq_true rfl) ?_
  refine x_iload_n dX11_isHearing_0 rfl rfl ?_
  refine x_iconst (v := -1) dX11_isHearing_1 (by decide) ?_
  refine x_icmp_ne (tgt := 16) dX11_isHearing_2 (by decide) (fun h2 => ?_) (fun h2 => ?_)
  · refine x_iload_n dX11_isHearing_16 rfl rfl ?_
    refine x_cS1 dX11_isHearing_17 ls_X11_133 rfl  (c_X11_isSaying ?_)
    refine x_if_eq_b (tgt := 45) dX11_isHearing_20 (by decide) (fun h20 => ?_) (fun h20 => ?_)
    · refine x_iconst (v := 0) dX11_isHearing_45 (by decide) ?_
      exact x_ireturn dX11_isHearing_46 rfl rfl (fin hq (by
first
| exact bI_t ⟨by rw [h2]; exact ⟨by decide, by decide⟩, Or.inl h7⟩
| exact bI_f (fun z => z.2.elim h7 (fun y => y.2.2 h2))
| exact bI_f (fun z => h20 (sayNN z.1 h2))
| exact bI_t ⟨sayUp h20, Or.inl h25⟩
| exact bI_t ⟨sayUp h20, Or.inr ⟨h33, h38, h2⟩⟩
| exact bI_f (fun z => z.2.elim h25 (fun y => h33 y.1))
| exact bI_f (fun z => z.2.elim h25 (fun y => y.2.1 h38))))
    · refine x_iload_n dX11_isHearing_23 rfl rfl ?_
      refine x_iconst (v := -1) dX11_isHearing_24 (by decide) ?_
      refine x_icmp_eq (tgt := 41) dX11_isHearing_25 (by decide) (fun h25 => ?_) (fun h25 => ?_)
      · refine x_iconst (v := 1) dX11_isHearing_41 (by decide) ?_
        refine x_goto (tgt := 46) dX11_isHearing_42 (by decide) ?_
        exact x_ireturn dX11_isHearing_46 rfl rfl (fin hq (by
first
| exact bI_t ⟨by rw [h2]; exact ⟨by decide, by decide⟩, Or.inl h7⟩
| exact bI_f (fun z => z.2.elim h7 (fun y => y.2.2 h2))
| exact bI_f (fun z => h20 (sayNN z.1 h2))
| exact bI_t ⟨sayUp h20, Or.inl h25⟩
| exact bI_t ⟨sayUp h20, Or.inr ⟨h33, h38, h2⟩⟩
| exact bI_f (fun z => z.2.elim h25 (fun y => h33 y.1))
| exact bI_f (fun z => z.2.elim h25 (fun y => y.2.1 h38))))
      · refine x_aload_n dX11_isHearing_28 rfl rfl ?_
        refine x_iload_n dX11_isHearing_29 rfl rfl ?_
        refine x_cV1 dX11_isHearing_30 lv_X11_112 (kc hi kf_0) rfl rfl rfl  (c_X11_isPerson hW ?_)
        refine x_if_eq_b (tgt := 45) dX11_isHearing_33 (by decide) (fun h33 => ?_) (fun h33 => ?_)
        · refine x_iconst (v := 0) dX11_isHearing_45 (by decide) ?_
          exact x_ireturn dX11_isHearing_46 rfl rfl (fin hq (by
first
| exact bI_t ⟨by rw [h2]; exact ⟨by decide, by decide⟩, Or.inl h7⟩
| exact bI_f (fun z => z.2.elim h7 (fun y => y.2.2 h2))
| exact bI_f (fun z => h20 (sayNN z.1 h2))
| exact bI_t ⟨sayUp h20, Or.inl h25⟩
| exact bI_t ⟨sayUp h20, Or.inr ⟨h33, h38, h2⟩⟩
| exact bI_f (fun z => z.2.elim h25 (fun y => h33 y.1))
| exact bI_f (fun z => z.2.elim h25 (fun y => y.2.1 h38))))
        · refine x_iload_n dX11_isHearing_36 rfl rfl ?_
          refine x_iload_n dX11_isHearing_37 rfl rfl ?_
          refine x_icmp_eq (tgt := 45) dX11_isHearing_38 (by decide) (fun h38 => ?_) (fun h38 => ?_)
          · refine x_iconst (v := 0) dX11_isHearing_45 (by decide) ?_
            exact x_ireturn dX11_isHearing_46 rfl rfl (fin hq (by
first
| exact bI_t ⟨by rw [h2]; exact ⟨by decide, by decide⟩, Or.inl h7⟩
| exact bI_f (fun z => z.2.elim h7 (fun y => y.2.2 h2))
| exact bI_f (fun z => h20 (sayNN z.1 h2))
| exact bI_t ⟨sayUp h20, Or.inl h25⟩
| exact bI_t ⟨sayUp h20, Or.inr ⟨h33, h38, h2⟩⟩
| exact bI_f (fun z => z.2.elim h25 (fun y => h33 y.1))
| exact bI_f (fun z => z.2.elim h25 (fun y => y.2.1 h38))))
          · refine x_iconst (v := 1) dX11_isHearing_41 (by decide) ?_
            refine x_goto (tgt := 46) dX11_isHearing_42 (by decide) ?_
            exact x_ireturn dX11_isHearing_46 rfl rfl (fin hq (by
first
| exact bI_t ⟨by rw [h2]; exact ⟨by decide, by decide⟩, Or.inl h7⟩
| exact bI_f (fun z => z.2.elim h7 (fun y => y.2.2 h2))
| exact bI_f (fun z => h20 (sayNN z.1 h2))
| exact bI_t ⟨sayUp h20, Or.inl h25⟩
| exact bI_t ⟨sayUp h20, Or.inr ⟨h33, h38, h2⟩⟩
| exact bI_f (fun z => z.2.elim h25 (fun y => h33 y.1))
| exact bI_f (fun z => z.2.elim h25 (fun y => y.2.1 h38))))
  · refine x_iload_n dX11_isHearing_5 rfl rfl ?_
    refine x_iconst (v := -1) dX11_isHearing_6 (by decide) ?_
    refine x_icmp_ne (tgt := 14) dX11_isHearing_7 (by decide) (fun h7 => ?_) (fun h7 => ?_)
    · refine x_iconst (v := 0) dX11_isHearing_14 (by decide) ?_
      exact x_ireturn dX11_isHearing_15 rfl rfl (fin hq (by
first
| exact bI_t ⟨by rw [h2]; exact ⟨by decide, by decide⟩, Or.inl h7⟩
| exact bI_f (fun z => z.2.elim h7 (fun y => y.2.2 h2))
| exact bI_f (fun z => h20 (sayNN z.1 h2))
| exact bI_t ⟨sayUp h20, Or.inl h25⟩
| exact bI_t ⟨sayUp h20, Or.inr ⟨h33, h38, h2⟩⟩
| exact bI_f (fun z => z.2.elim h25 (fun y => h33 y.1))
| exact bI_f (fun z => z.2.elim h25 (fun y => y.2.1 h38))))
    · refine x_iconst (v := 1) dX11_isHearing_10 (by decide) ?_
      refine x_goto (tgt := 15) dX11_isHearing_11 (by decide) ?_
      exact x_ireturn dX11_isHearing_15 rfl rfl (fin hq (by
first
| exact bI_t ⟨by rw [h2]; exact ⟨by decide, by decide⟩, Or.inl h7⟩
| exact bI_f (fun z => z.2.elim h7 (fun y => y.2.2 h2))
| exact bI_f (fun z => h20 (sayNN z.1 h2))
| exact bI_t ⟨sayUp h20, Or.inl h25⟩
| exact bI_t ⟨sayUp h20, Or.inr ⟨h33, h38, h2⟩⟩
| exact bI_f (fun z => z.2.elim h25 (fun y => h33 y.1))
| exact bI_f (fun z => z.2.elim h25 (fun y => y.2.1 h38))))
end CLA
