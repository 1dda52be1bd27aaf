/-! the model's methods, 1: bounds, days, persons, stops, lines -/
section MDA
variable {G : Gam} {d : Nat} {k : Nat × Nat} {ad : Nat → Nat} {σ : MS} {M : Mem} {Q : Option Value → Mem → Prop}
theorem c_X12_isDay {v : Int32} (hq : Q (some (.int (bI (isD v)))) M) : CT G (d + 1) (0, 0) MX12_isDay [.int v] M Q := by
  refine CT.of rfl (Nat.le_of_ble_eq_true rfl) ?_
  refine x_iload_n dX12_isDay_0 rfl rfl ?_
  refine x_iconst (v := 0) dX12_isDay_1 (by decide) ?_
  refine x_sipush (v := 1000) dX12_isDay_2 (by decide) ?_
  refine x_callS [_, _, _] dX12_isDay_5 ls_X12_145 rfl (Nat.le_of_ble_eq_true rfl) ⟨Nat.zero_le _, Nat.zero_le _⟩ rfl (c_X12_isIn ?_)
  exact x_ireturn dX12_isDay_8 rfl bI_nar (hq)
theorem c_X12_isSort {v : Int32} (hq : Q (some (.int (bI (isS v)))) M) : CT G (d + 1) (0, 0) MX12_isSort [.int v] M Q := by
  refine CT.of rfl (Nat.le_of_ble_eq_true rfl) ?_
  refine x_iload_n dX12_isSort_0 rfl rfl ?_
  refine x_iconst (v := 0) dX12_isSort_1 (by decide) ?_
  refine x_bipush (v := 9) dX12_isSort_2 (by decide) ?_
  refine x_callS [_, _, _] dX12_isSort_4 ls_X12_145 rfl (Nat.le_of_ble_eq_true rfl) ⟨Nat.zero_le _, Nat.zero_le _⟩ rfl (c_X12_isIn ?_)
  exact x_ireturn dX12_isSort_7 rfl bI_nar (hq)
theorem c_X12_isPerson {p : Int32} (hq : Q (some (.int (bI (isP σ p)))) (mm ad σ)) : CT G d (0, 0) MX12_isPerson [.ref (ad 99), .int p] (mm ad σ) Q := by
  refine CT.of rfl (Nat.le_of_ble_eq_true rfl) ?_
  refine x_iload_n dX12_isPerson_0 rfl rfl ?_
  refine x_if_lt (tgt := 16) dX12_isPerson_1 (by decide) (fun h1 => ?_) (fun h1 => ?_)
  · refine x_iconst (v := 0) dX12_isPerson_16 (by decide) ?_
    exact x_ireturn dX12_isPerson_17 rfl rfl (fin hq (by first | exact bI_t ⟨Int32.not_lt.mp h1, Int32.not_le.mp h9⟩ | exact bI_f (fun z => absurd h1 (Int32.not_lt.mpr z.1)) | exact bI_f (fun z => absurd h9 (Int32.not_le.mpr z.2))))
  · refine x_iload_n dX12_isPerson_4 rfl rfl ?_
    refine x_aload_n dX12_isPerson_5 rfl rfl ?_
    refine xm_geti dX12_isPerson_6 lf_X12_149 rfl ?_
    refine x_icmp_ge (tgt := 16) dX12_isPerson_9 (by decide) (fun h9 => ?_) (fun h9 => ?_)
    · refine x_iconst (v := 0) dX12_isPerson_16 (by decide) ?_
      exact x_ireturn dX12_isPerson_17 rfl rfl (fin hq (by first | exact bI_t ⟨Int32.not_lt.mp h1, Int32.not_le.mp h9⟩ | exact bI_f (fun z => absurd h1 (Int32.not_lt.mpr z.1)) | exact bI_f (fun z => absurd h9 (Int32.not_le.mpr z.2))))
    · refine x_iconst (v := 1) dX12_isPerson_12 (by decide) ?_
      refine x_goto (tgt := 17) dX12_isPerson_13 (by decide) ?_
      exact x_ireturn dX12_isPerson_17 rfl rfl (fin hq (by first | exact bI_t ⟨Int32.not_lt.mp h1, Int32.not_le.mp h9⟩ | exact bI_f (fun z => absurd h1 (Int32.not_lt.mpr z.1)) | exact bI_f (fun z => absurd h9 (Int32.not_le.mpr z.2))))
theorem c_X12_isLine {p : Int32} (hq : Q (some (.int (bI (isL σ p)))) (mm ad σ)) : CT G d (0, 0) MX12_isLine [.ref (ad 99), .int p] (mm ad σ) Q := by
  refine CT.of rfl (Nat.le_of_ble_eq_true rfl) ?_
  refine x_iload_n dX12_isLine_0 rfl rfl ?_
  refine x_if_lt (tgt := 16) dX12_isLine_1 (by decide) (fun h1 => ?_) (fun h1 => ?_)
  · refine x_iconst (v := 0) dX12_isLine_16 (by decide) ?_
    exact x_ireturn dX12_isLine_17 rfl rfl (fin hq (by first | exact bI_t ⟨Int32.not_lt.mp h1, Int32.not_le.mp h9⟩ | exact bI_f (fun z => absurd h1 (Int32.not_lt.mpr z.1)) | exact bI_f (fun z => absurd h9 (Int32.not_le.mpr z.2))))
  · refine x_iload_n dX12_isLine_4 rfl rfl ?_
    refine x_aload_n dX12_isLine_5 rfl rfl ?_
    refine xm_geti dX12_isLine_6 lf_X12_152 rfl ?_
    refine x_icmp_ge (tgt := 16) dX12_isLine_9 (by decide) (fun h9 => ?_) (fun h9 => ?_)
    · refine x_iconst (v := 0) dX12_isLine_16 (by decide) ?_
      exact x_ireturn dX12_isLine_17 rfl rfl (fin hq (by first | exact bI_t ⟨Int32.not_lt.mp h1, Int32.not_le.mp h9⟩ | exact bI_f (fun z => absurd h1 (Int32.not_lt.mpr z.1)) | exact bI_f (fun z => absurd h9 (Int32.not_le.mpr z.2))))
    · refine x_iconst (v := 1) dX12_isLine_12 (by decide) ?_
      refine x_goto (tgt := 17) dX12_isLine_13 (by decide) ?_
      exact x_ireturn dX12_isLine_17 rfl rfl (fin hq (by first | exact bI_t ⟨Int32.not_lt.mp h1, Int32.not_le.mp h9⟩ | exact bI_f (fun z => absurd h1 (Int32.not_lt.mpr z.1)) | exact bI_f (fun z => absurd h9 (Int32.not_le.mpr z.2))))
def isLB (σ : MS) (l q : Int32) : Prop := isL σ l ∧ isK σ q ∧ σ.2 14 l.toNatClampNeg ≤ q
theorem c_X12_isLineBy {l q : Int32} (hi : adOK ad) (hc : Cnt σ) (hq : Q (some (.int (bI (isLB σ l q)))) (mm ad σ)) : CT G (d + 2) (0, 0) MX12_isLineBy [.ref (ad 99), .int l, .int q] (mm ad σ) Q := by
  obtain ⟨hl1, hl2⟩ := hc.b 16 (b := 200) (by decide)
  refine CT.of rfl (Nat.le_of_ble_eq_true rfl) ?_
  refine x_aload_n dX12_isLineBy_0 rfl rfl ?_
  refine x_iload_n dX12_isLineBy_1 rfl rfl ?_
  refine x_callV [_] dX12_isLineBy_2 lv_X12_155 mm_obj rfl rfl rfl (Nat.le_of_ble_eq_true rfl) ⟨Nat.zero_le _, Nat.zero_le _⟩ rfl (c_X12_isLine ?_)
  refine x_if_eq_b (tgt := 30) dX12_isLineBy_5 (by decide) (fun h5 => ?_) (fun h5 => ?_)
  · refine x_iconst (v := 0) dX12_isLineBy_30 (by decide) ?_
    exact x_ireturn dX12_isLineBy_31 rfl rfl (fin hq (by first | exact bI_t ⟨h5, h13, Int32.not_lt.mp h23⟩ | exact bI_f (fun z => h5 z.1) | exact bI_f (fun z => h13 z.2.1) | exact bI_f (fun z => absurd h23 (Int32.not_lt.mpr z.2.2))))
  · refine x_aload_n dX12_isLineBy_8 rfl rfl ?_
    refine x_iload_n dX12_isLineBy_9 rfl rfl ?_
    refine x_callV [_] dX12_isLineBy_10 lv_X12_159 mm_obj rfl rfl rfl (Nat.le_of_ble_eq_true rfl) ⟨Nat.zero_le _, Nat.zero_le _⟩ rfl (c_X12_isKnown ?_)
    refine x_if_eq_b (tgt := 30) dX12_isLineBy_13 (by decide) (fun h13 => ?_) (fun h13 => ?_)
    · refine x_iconst (v := 0) dX12_isLineBy_30 (by decide) ?_
      exact x_ireturn dX12_isLineBy_31 rfl rfl (fin hq (by first | exact bI_t ⟨h5, h13, Int32.not_lt.mp h23⟩ | exact bI_f (fun z => h5 z.1) | exact bI_f (fun z => h13 z.2.1) | exact bI_f (fun z => absurd h23 (Int32.not_lt.mpr z.2.2))))
    · refine x_aload_n dX12_isLineBy_16 rfl rfl ?_
      refine xm_geta dX12_isLineBy_17 lf_X12_46 rfl ?_
      refine x_iload_n dX12_isLineBy_20 rfl rfl ?_
      refine xm_iald 14 dX12_isLineBy_21 rfl hi (in_lt h5.1 h5.2 hl1 hl2 (by decide)) rfl ?_
      refine x_iload_n dX12_isLineBy_22 rfl rfl ?_
      refine x_icmp_gt (tgt := 30) dX12_isLineBy_23 (by decide) (fun h23 => ?_) (fun h23 => ?_)
      · refine x_iconst (v := 0) dX12_isLineBy_30 (by decide) ?_
        exact x_ireturn dX12_isLineBy_31 rfl rfl (fin hq (by first | exact bI_t ⟨h5, h13, Int32.not_lt.mp h23⟩ | exact bI_f (fun z => h5 z.1) | exact bI_f (fun z => h13 z.2.1) | exact bI_f (fun z => absurd h23 (Int32.not_lt.mpr z.2.2))))
      · refine x_iconst (v := 1) dX12_isLineBy_26 (by decide) ?_
        refine x_goto (tgt := 31) dX12_isLineBy_27 (by decide) ?_
        exact x_ireturn dX12_isLineBy_31 rfl rfl (fin hq (by first | exact bI_t ⟨h5, h13, Int32.not_lt.mp h23⟩ | exact bI_f (fun z => h5 z.1) | exact bI_f (fun z => h13 z.2.1) | exact bI_f (fun z => absurd h23 (Int32.not_lt.mpr z.2.2))))
theorem c_X12_days {n : Int32} (hq : Q (some (.int (aDays σ n))) (mm ad (nDays σ n))) : CT G (d + 1) (0, 0) MX12_days [.ref (ad 99), .int n] (mm ad σ) Q := by
  unfold aDays nDays at hq
  refine CT.of rfl (Nat.le_of_ble_eq_true rfl) ?_
  refine x_aload_n dX12_days_0 rfl rfl ?_
  refine x_iconst (v := 0) dX12_days_1 (by decide) ?_
  refine xm_puti dX12_days_2 lp_X12_138 rfl rfl rfl ?_
  refine x_iload_n dX12_days_5 rfl rfl ?_
  refine x_iconst (v := 0) dX12_days_6 (by decide) ?_
  refine x_sipush (v := 400) dX12_days_7 (by decide) ?_
  refine x_callS [_, _, _] dX12_days_10 ls_X12_145 rfl (Nat.le_of_ble_eq_true rfl) ⟨Nat.zero_le _, Nat.zero_le _⟩ rfl (c_X12_isIn ?_)
  refine x_if_eq_b (tgt := 28) dX12_days_13 (by decide) (fun h13 => ?_) (fun h13 => ?_)
  · refine x_iconst (v := -1) dX12_days_28 (by decide) ?_
    exact x_ireturn dX12_days_29 rfl rfl (by first | (rw [cI_f (fun z => h13 z.1), cI_f (fun z => h13 z.1)] at hq; exact hq) | (rw [cI_f (fun z => h25 z.2), cI_f (fun z => h25 z.2)] at hq; exact hq))
  · refine x_aload_n dX12_days_16 rfl rfl ?_
    refine xm_geti dX12_days_17 lf_X12_142 rfl ?_
    refine x_iload_n dX12_days_20 rfl rfl ?_
    refine x_iadd dX12_days_21 ?_
    refine x_sipush (v := 1000) dX12_days_22 (by decide) ?_
    refine x_icmp_le (tgt := 30) dX12_days_25 (by decide) (fun h25 => ?_) (fun h25 => ?_)
    · refine x_aload_n dX12_days_30 rfl rfl ?_
      refine x_dup dX12_days_31 rfl ?_
      refine xm_geti dX12_days_32 lf_X12_142 rfl ?_
      refine x_iload_n dX12_days_35 rfl rfl ?_
      refine x_iadd dX12_days_36 ?_
      refine xm_puti dX12_days_37 lp_X12_142 rfl rfl rfl ?_
      refine x_aload_n dX12_days_40 rfl rfl ?_
      refine xm_geti dX12_days_41 lf_X12_142 rfl ?_
      exact x_ireturn dX12_days_44 rfl rfl (by rw [cI_t ⟨h13, h25⟩, cI_t ⟨h13, h25⟩] at hq; exact hq)
    · refine x_iconst (v := -1) dX12_days_28 (by decide) ?_
      exact x_ireturn dX12_days_29 rfl rfl (by first | (rw [cI_f (fun z => h13 z.1), cI_f (fun z => h13 z.1)] at hq; exact hq) | (rw [cI_f (fun z => h25 z.2), cI_f (fun z => h25 z.2)] at hq; exact hq))
theorem c_X12_person {a b c : Int32} (hi : adOK ad) (hc : Cnt σ) (hq : Q (some (.int (aPerson σ a b c))) (mm ad (nPerson σ a b c))) : CT G (d + 1) (0, 0) MX12_person [.ref (ad 99), .int a, .int b, .int c] (mm ad σ) Q := by
  obtain ⟨hl1, hl2⟩ := hc.b 15 (b := 24) (by decide)
  unfold aPerson nPerson at hq
  refine CT.of rfl (Nat.le_of_ble_eq_true rfl) ?_
  refine x_aload_n dX12_person_0 rfl rfl ?_
  refine x_iconst (v := 0) dX12_person_1 (by decide) ?_
  refine xm_puti dX12_person_2 lp_X12_138 rfl rfl rfl ?_
  refine x_aload_n dX12_person_5 rfl rfl ?_
  refine xm_geti dX12_person_6 lf_X12_149 rfl ?_
  refine x_bipush (v := 24) dX12_person_9 (by decide) ?_
  refine x_icmp_eq (tgt := 45) dX12_person_11 (by decide) (fun h11 => ?_) (fun h11 => ?_)
  · refine x_iconst (v := -1) dX12_person_45 (by decide) ?_
    refine x_ireturn dX12_person_46 rfl rfl ?_
    have hn : ¬ pPerson σ a b c := by rintro ⟨z1, z2, z3, z4⟩; first | exact z1 h11 | exact h21 z2 | exact h32 z3 | exact h42 z4
    rw [cI_f hn, cI_f hn] at hq; exact hq
  · refine x_iload_n dX12_person_14 rfl rfl ?_
    refine x_iconst (v := 0) dX12_person_15 (by decide) ?_
    refine x_bipush (v := 7) dX12_person_16 (by decide) ?_
    refine x_callS [_, _, _] dX12_person_18 ls_X12_145 rfl (Nat.le_of_ble_eq_true rfl) ⟨Nat.zero_le _, Nat.zero_le _⟩ rfl (c_X12_isIn ?_)
    refine x_if_eq_b (tgt := 45) dX12_person_21 (by decide) (fun h21 => ?_) (fun h21 => ?_)
    · refine x_iconst (v := -1) dX12_person_45 (by decide) ?_
      refine x_ireturn dX12_person_46 rfl rfl ?_
      have hn : ¬ pPerson σ a b c := by rintro ⟨z1, z2, z3, z4⟩; first | exact z1 h11 | exact h21 z2 | exact h32 z3 | exact h42 z4
      rw [cI_f hn, cI_f hn] at hq; exact hq
    · refine x_iload_n dX12_person_24 rfl rfl ?_
      refine x_bipush (v := 10) dX12_person_25 (by decide) ?_
      refine x_bipush (v := 99) dX12_person_27 (by decide) ?_
      refine x_callS [_, _, _] dX12_person_29 ls_X12_145 rfl (Nat.le_of_ble_eq_true rfl) ⟨Nat.zero_le _, Nat.zero_le _⟩ rfl (c_X12_isIn ?_)
      refine x_if_eq_b (tgt := 45) dX12_person_32 (by decide) (fun h32 => ?_) (fun h32 => ?_)
      · refine x_iconst (v := -1) dX12_person_45 (by decide) ?_
        refine x_ireturn dX12_person_46 rfl rfl ?_
        have hn : ¬ pPerson σ a b c := by rintro ⟨z1, z2, z3, z4⟩; first | exact z1 h11 | exact h21 z2 | exact h32 z3 | exact h42 z4
        rw [cI_f hn, cI_f hn] at hq; exact hq
      · refine x_iload_n dX12_person_35 rfl rfl ?_
        refine x_iconst (v := 0) dX12_person_36 (by decide) ?_
        refine x_bipush (v := 7) dX12_person_37 (by decide) ?_
        refine x_callS [_, _, _] dX12_person_39 ls_X12_145 rfl (Nat.le_of_ble_eq_true rfl) ⟨Nat.zero_le _, Nat.zero_le _⟩ rfl (c_X12_isIn ?_)
        refine x_if_ne_b (tgt := 47) dX12_person_42 (by decide) (fun h42 => ?_) (fun h42 => ?_)
        · have hin : vp_in (σ.1 15) 24 := by rw [hl1]; exact vp_in_nI (by have : cn σ 15 ≠ 24 := fun z => h11 (by show σ.1 15 = 24; rw [hl1, z]; rfl); omega) (by decide)
          refine x_aload_n dX12_person_47 rfl rfl ?_
          refine xm_geta dX12_person_48 lf_X12_9 rfl ?_
          refine x_aload_n dX12_person_51 rfl rfl ?_
          refine xm_geti dX12_person_52 lf_X12_149 rfl ?_
          refine x_iload_n dX12_person_55 rfl rfl ?_
          refine xm_iast 2 dX12_person_56 rfl hi hin rfl ?_
          refine x_aload_n dX12_person_57 rfl rfl ?_
          refine xm_geta dX12_person_58 lf_X12_13 rfl ?_
          refine x_aload_n dX12_person_61 rfl rfl ?_
          refine xm_geti dX12_person_62 lf_X12_149 rfl ?_
          refine x_iload_n dX12_person_65 rfl rfl ?_
          refine xm_iast 3 dX12_person_66 rfl hi hin rfl ?_
          refine x_aload_n dX12_person_67 rfl rfl ?_
          refine xm_geta dX12_person_68 lf_X12_16 rfl ?_
          refine x_aload_n dX12_person_71 rfl rfl ?_
          refine xm_geti dX12_person_72 lf_X12_149 rfl ?_
          refine x_iload_n dX12_person_75 rfl rfl ?_
          refine xm_iast 4 dX12_person_76 rfl hi hin rfl ?_
          refine x_aload_n dX12_person_77 rfl rfl ?_
          refine x_dup dX12_person_78 rfl ?_
          refine xm_geti dX12_person_79 lf_X12_149 rfl ?_
          refine x_iconst (v := 1) dX12_person_82 (by decide) ?_
          refine x_iadd dX12_person_83 ?_
          refine xm_puti dX12_person_84 lp_X12_149 rfl rfl rfl ?_
          refine x_aload_n dX12_person_87 rfl rfl ?_
          refine xm_geti dX12_person_88 lf_X12_149 rfl ?_
          refine x_iconst (v := 1) dX12_person_91 (by decide) ?_
          refine x_isub dX12_person_92 ?_
          refine x_ireturn dX12_person_93 rfl rfl ?_
          have hn : pPerson σ a b c := ⟨h11, h21, h32, h42⟩
          rw [cI_t hn, cI_t hn] at hq
          refine fin hq ?_
          show _ = σ.1 15 + 1 - 1
          sorry
        · refine x_iconst (v := -1) dX12_person_45 (by decide) ?_
          refine x_ireturn dX12_person_46 rfl rfl ?_
          have hn : ¬ pPerson σ a b c := by rintro ⟨z1, z2, z3, z4⟩; first | exact z1 h11 | exact h21 z2 | exact h32 z3 | exact h42 z4
          rw [cI_f hn, cI_f hn] at hq; exact hq
theorem c_X12_stopsFrom {p q : Int32} (hi : adOK ad) (hc : Cnt σ) (hq : Q (some (.int (spStop σ p q (cn σ 17)))) (mm ad σ)) : CT G d (0, 0) MX12_stopsFrom [.ref (ad 99), .int p, .int q] (mm ad σ) Q := by
  obtain ⟨hl1, hl2⟩ := hc.b 17 (b := 60) (by decide)
  refine CT.of rfl (Nat.le_of_ble_eq_true rfl) ?_
  refine x_iconst (v := -1) dX12_stopsFrom_0 (by decide) ?_
  refine x_istore_n dX12_stopsFrom_1 rfl (by decide) ?_
  refine x_iconst (v := 0) dX12_stopsFrom_2 (by decide) ?_
  refine x_istore dX12_stopsFrom_3 (by decide) ?_
  refine x_loc [(0, .ref (ad 99)), (1, .int p), (2, .int q), (3, .int (spStop σ p q 0)), (4, .int (nI 0))] ⟨rfl, rfl, rfl, rfl, rfl, trivial⟩ ?_
  refine loop_up (P := fun i => XJ G d (0, 0) MX12_stopsFrom (mm ad σ) [(0, .ref (ad 99)), (1, .int p), (2, .int q), (3, .int (spStop σ p q i)), (4, .int (nI i))] [] 5 Q) (n := cn σ 17) ?_ ?_ 0 (Nat.zero_le _)
  · refine x_iload dX12_stopsFrom_5 rfl ?_
    refine x_aload_n dX12_stopsFrom_7 rfl rfl ?_
    refine xm_geti dX12_stopsFrom_8 lf_X12_162 rfl ?_
    refine x_icmp_ge (tgt := 50) dX12_stopsFrom_11 (by decide) (fun _ => ?_) (fun z => absurd (by rw [hl1]; exact Int32.le_refl _) z)
    refine x_iload_n dX12_stopsFrom_50 rfl rfl ?_
    exact x_ireturn dX12_stopsFrom_51 rfl rfl (hq)
  · intro i hlt ih
    have hin : vp_in (nI i) 60 := vp_in_nI (by omega) (by decide)
    have hcl : (nI i).toNatClampNeg = i := nI_clamp (by omega)
    refine x_iload dX12_stopsFrom_5 rfl ?_
    refine x_aload_n dX12_stopsFrom_7 rfl rfl ?_
    refine xm_geti dX12_stopsFrom_8 lf_X12_162 rfl ?_
    refine x_icmp_ge (tgt := 50) dX12_stopsFrom_11 (by decide) (fun z => absurd z (by rw [hl1]; exact Int32.not_le.mpr (nI_lt hlt (by omega)))) (fun _ => ?_)
    refine x_aload_n dX12_stopsFrom_14 rfl rfl ?_
    refine xm_geta dX12_stopsFrom_15 lf_X12_19 rfl ?_
    refine x_iload dX12_stopsFrom_18 rfl ?_
    refine xm_iald 5 dX12_stopsFrom_20 rfl hi hin hcl ?_
    refine x_iload_n dX12_stopsFrom_21 rfl rfl ?_
    refine x_icmp_ne (tgt := 44) dX12_stopsFrom_22 (by decide) (fun h22 => ?_) (fun h22 => ?_)
    · refine x_iinc (c := 1) dX12_stopsFrom_44 rfl (by decide) ?_
      refine x_goto (tgt := 5) dX12_stopsFrom_47 (by decide) ?_
      refine x_loc _ (?_ : lle _ _) ih
      refine ⟨rfl, rfl, rfl, ?_, ?_, trivial⟩
      · show some (Value.int _) = some (Value.int (if σ.2 5 i = p ∧ σ.2 7 i ≤ q then σ.2 6 i else spStop σ p q i))
        clear ih hq; grind
      · show some (Value.int _) = some (Value.int (nI (i + 1)))
        rw [← nI_1]
    · refine x_aload_n dX12_stopsFrom_25 rfl rfl ?_
      refine xm_geta dX12_stopsFrom_26 lf_X12_25 rfl ?_
      refine x_iload dX12_stopsFrom_29 rfl ?_
      refine xm_iald 7 dX12_stopsFrom_31 rfl hi hin hcl ?_
      refine x_iload_n dX12_stopsFrom_32 rfl rfl ?_
      refine x_icmp_gt (tgt := 44) dX12_stopsFrom_33 (by decide) (fun h33 => ?_) (fun h33 => ?_)
      · refine x_iinc (c := 1) dX12_stopsFrom_44 rfl (by decide) ?_
        refine x_goto (tgt := 5) dX12_stopsFrom_47 (by decide) ?_
        refine x_loc _ (?_ : lle _ _) ih
        refine ⟨rfl, rfl, rfl, ?_, ?_, trivial⟩
        · show some (Value.int _) = some (Value.int (if σ.2 5 i = p ∧ σ.2 7 i ≤ q then σ.2 6 i else spStop σ p q i))
          clear ih hq; grind
        · show some (Value.int _) = some (Value.int (nI (i + 1)))
          rw [← nI_1]
      · refine x_aload_n dX12_stopsFrom_36 rfl rfl ?_
        refine xm_geta dX12_stopsFrom_37 lf_X12_22 rfl ?_
        refine x_iload dX12_stopsFrom_40 rfl ?_
        refine xm_iald 6 dX12_stopsFrom_42 rfl hi hin hcl ?_
        refine x_istore_n dX12_stopsFrom_43 rfl (by decide) ?_
        refine x_iinc (c := 1) dX12_stopsFrom_44 rfl (by decide) ?_
        refine x_goto (tgt := 5) dX12_stopsFrom_47 (by decide) ?_
        refine x_loc _ (?_ : lle _ _) ih
        refine ⟨rfl, rfl, rfl, ?_, ?_, trivial⟩
        · show some (Value.int _) = some (Value.int (if σ.2 5 i = p ∧ σ.2 7 i ≤ q then σ.2 6 i else spStop σ p q i))
          clear ih hq; grind
        · show some (Value.int _) = some (Value.int (nI (i + 1)))
          rw [← nI_1]
end MDA
