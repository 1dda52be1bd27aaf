/-! the model's methods, 1: bounds, days, persons, stops, lines -/
section MDA
variable {G : Gam} {d : Nat} {k : Nat × Nat} {ad : Nat → Nat} {σ σ0 : MS} {M : Mem} {Q : Option Value → Mem → Prop}
theorem c_X12_isDay {v : Int32} (hq : Q (some (.int (bI (isD v)))) M) : CT G (d + 1) (0, 0) MX12_isDay [.int v] M Q := by
  refine CT.of rfl (Nat.le_of_ble_eq_true rfl) ?_
  refine x_iload_n dX12_isDay_0 rfl rfl ?_
  refine x_iconst (v := 0) dX12_isDay_1 (by decide) ?_
  refine x_sipush (v := 1000) dX12_isDay_2 (by decide) ?_
  refine x_cS3 dX12_isDay_5 ls_X12_145 rfl  (c_X12_isIn ?_)
  exact x_ireturn dX12_isDay_8 rfl bI_nar (hq)
theorem c_X12_isSort {v : Int32} (hq : Q (some (.int (bI (isS v)))) M) : CT G (d + 1) (0, 0) MX12_isSort [.int v] M Q := by
  refine CT.of rfl (Nat.le_of_ble_eq_true rfl) ?_
  refine x_iload_n dX12_isSort_0 rfl rfl ?_
  refine x_iconst (v := 0) dX12_isSort_1 (by decide) ?_
  refine x_bipush (v := 9) dX12_isSort_2 (by decide) ?_
  refine x_cS3 dX12_isSort_4 ls_X12_145 rfl  (c_X12_isIn ?_)
  exact x_ireturn dX12_isSort_7 rfl bI_nar (hq)
theorem c_X12_isReader {v : Int32} (hq : Q (some (.int (bI (isR v)))) M) : CT G (d + 1) (0, 0) MX12_isReader [.int v] M Q := by
  refine CT.of rfl (Nat.le_of_ble_eq_true rfl) ?_
  refine x_iload_n dX12_isReader_0 rfl rfl ?_
  refine x_iconst (v := 0) dX12_isReader_1 (by decide) ?_
  refine x_iconst (v := 5) dX12_isReader_2 (by decide) ?_
  refine x_cS3 dX12_isReader_3 ls_X12_145 rfl  (c_X12_isIn ?_)
  exact x_ireturn dX12_isReader_6 rfl bI_nar (hq)
theorem c_X12_isPerson {p : Int32} (hq : Q (some (.int (bI (isP σ p)))) (mm ad σ)) : CT G d (0, 0) MX12_isPerson [.ref (ad 99), .int p] (mm ad σ) Q := by
  refine CT.of rfl (Nat.le_of_ble_eq_true rfl) ?_
  refine x_iload_n dX12_isPerson_0 rfl rfl ?_
  refine x_if_lt (tgt := 16) dX12_isPerson_1 (by decide) (fun h1 => ?_) (fun h1 => ?_)
  · refine x_iconst (v := 0) dX12_isPerson_16 (by decide) ?_
    exact x_ireturn dX12_isPerson_17 rfl rfl (fin hq (by first | exact bI_t ⟨Int32.not_lt.mp h1, Int32.not_le.mp h9⟩ | exact bI_f (fun z => absurd h1 (Int32.not_lt.mpr z.1)) | exact bI_f (fun z => absurd h9 (Int32.not_le.mpr z.2))))
  · refine x_iload_n dX12_isPerson_4 rfl rfl ?_
    refine x_aload_n dX12_isPerson_5 rfl rfl ?_
    refine xm_geti dX12_isPerson_6 lf_X12_149 vmi_15 ?_
    refine x_icmp_ge (tgt := 16) dX12_isPerson_9 (by decide) (fun h9 => ?_) (fun h9 => ?_)
    · refine x_iconst (v := 0) dX12_isPerson_16 (by decide) ?_
      exact x_ireturn dX12_isPerson_17 rfl rfl (fin hq (by first | exact bI_t ⟨Int32.not_lt.mp h1, Int32.not_le.mp h9⟩ | exact bI_f (fun z => absurd h1 (Int32.not_lt.mpr z.1)) | exact bI_f (fun z => absurd h9 (Int32.not_le.mpr z.2))))
    · refine x_iconst (v := 1) dX12_isPerson_12 (by decide) ?_
      refine x_goto (tgt := 17) dX12_isPerson_13 (by decide) ?_
      exact x_ireturn dX12_isPerson_17 rfl rfl (fin hq (by first | exact bI_t ⟨Int32.not_lt.mp h1, Int32.not_le.mp h9⟩ | exact bI_f (fun z => absurd h1 (Int32.not_lt.mpr z.1)) | exact bI_f (fun z => absurd h9 (Int32.not_le.mpr z.2))))
theorem c_X12_isLine {p : Int32} (hq : Q (some (.int (bI (isL σ p)))) (mm ad σ)) : CT G d (0, 0) MX12_isLine [.ref (ad 99), .int p] (mm ad σ) Q := by
  refine CT.of rfl (Nat.le_of_ble_eq_true rfl) ?_
  refine x_iload_n dX12_isLine_0 rfl rfl ?_
  refine x_if_lt (tgt := 16) dX12_isLine_1 (by decide) (fun h1 => ?_) (fun h1 => ?_)
  · refine x_iconst (v := 0) dX12_isLine_16 (by decide) ?_
    exact x_ireturn dX12_isLine_17 rfl rfl (fin hq (by first | exact bI_t ⟨Int32.not_lt.mp h1, Int32.not_le.mp h9⟩ | exact bI_f (fun z => absurd h1 (Int32.not_lt.mpr z.1)) | exact bI_f (fun z => absurd h9 (Int32.not_le.mpr z.2))))
  · refine x_iload_n dX12_isLine_4 rfl rfl ?_
    refine x_aload_n dX12_isLine_5 rfl rfl ?_
    refine xm_geti dX12_isLine_6 lf_X12_152 vmi_16 ?_
    refine x_icmp_ge (tgt := 16) dX12_isLine_9 (by decide) (fun h9 => ?_) (fun h9 => ?_)
    · refine x_iconst (v := 0) dX12_isLine_16 (by decide) ?_
      exact x_ireturn dX12_isLine_17 rfl rfl (fin hq (by first | exact bI_t ⟨Int32.not_lt.mp h1, Int32.not_le.mp h9⟩ | exact bI_f (fun z => absurd h1 (Int32.not_lt.mpr z.1)) | exact bI_f (fun z => absurd h9 (Int32.not_le.mpr z.2))))
    · refine x_iconst (v := 1) dX12_isLine_12 (by decide) ?_
      refine x_goto (tgt := 17) dX12_isLine_13 (by decide) ?_
      exact x_ireturn dX12_isLine_17 rfl rfl (fin hq (by first | exact bI_t ⟨Int32.not_lt.mp h1, Int32.not_le.mp h9⟩ | exact bI_f (fun z => absurd h1 (Int32.not_lt.mpr z.1)) | exact bI_f (fun z => absurd h9 (Int32.not_le.mpr z.2))))
theorem c_X12_isLineBy {l q : Int32} (hi : adOK ad) (hc : Cnt σ) (hq : Q (some (.int (bI (isLB σ l q)))) (mm ad σ)) : CT G (d + 2) (0, 0) MX12_isLineBy [.ref (ad 99), .int l, .int q] (mm ad σ) Q := by
  obtain ⟨hl1, hl2⟩ := hc.b 16 (b := 200) (by decide)
  refine CT.of rfl (Nat.le_of_ble_eq_true rfl) ?_
  refine x_aload_n dX12_isLineBy_0 rfl rfl ?_
  refine x_iload_n dX12_isLineBy_1 rfl rfl ?_
  refine x_cV1 dX12_isLineBy_2 lv_X12_155 mm_obj rfl rfl rfl  (c_X12_isLine ?_)
  refine x_if_eq_b (tgt := 30) dX12_isLineBy_5 (by decide) (fun h5 => ?_) (fun h5 => ?_)
  · refine x_iconst (v := 0) dX12_isLineBy_30 (by decide) ?_
    exact x_ireturn dX12_isLineBy_31 rfl rfl (fin hq (by first | exact bI_t ⟨h5, h13, Int32.not_lt.mp h23⟩ | exact bI_f (fun z => h5 z.1) | exact bI_f (fun z => h13 z.2.1) | exact bI_f (fun z => absurd h23 (Int32.not_lt.mpr z.2.2))))
  · refine x_aload_n dX12_isLineBy_8 rfl rfl ?_
    refine x_iload_n dX12_isLineBy_9 rfl rfl ?_
    refine x_cV1 dX12_isLineBy_10 lv_X12_159 mm_obj rfl rfl rfl  (c_X12_isKnown ?_)
    refine x_if_eq_b (tgt := 30) dX12_isLineBy_13 (by decide) (fun h13 => ?_) (fun h13 => ?_)
    · refine x_iconst (v := 0) dX12_isLineBy_30 (by decide) ?_
      exact x_ireturn dX12_isLineBy_31 rfl rfl (fin hq (by first | exact bI_t ⟨h5, h13, Int32.not_lt.mp h23⟩ | exact bI_f (fun z => h5 z.1) | exact bI_f (fun z => h13 z.2.1) | exact bI_f (fun z => absurd h23 (Int32.not_lt.mpr z.2.2))))
    · refine x_aload_n dX12_isLineBy_16 rfl rfl ?_
      refine xm_geta dX12_isLineBy_17 lf_X12_46 vma_14 ?_
      refine x_iload_n dX12_isLineBy_20 rfl rfl ?_
      refine xm_iald 14 dX12_isLineBy_21 mf_14 hi (in_lt h5.1 h5.2 hl1 hl2 (by decide)) rfl ?_
      refine x_iload_n dX12_isLineBy_22 rfl rfl ?_
      refine x_icmp_gt (tgt := 30) dX12_isLineBy_23 (by decide) (fun h23 => ?_) (fun h23 => ?_)
      · refine x_iconst (v := 0) dX12_isLineBy_30 (by decide) ?_
        exact x_ireturn dX12_isLineBy_31 rfl rfl (fin hq (by first | exact bI_t ⟨h5, h13, Int32.not_lt.mp h23⟩ | exact bI_f (fun z => h5 z.1) | exact bI_f (fun z => h13 z.2.1) | exact bI_f (fun z => absurd h23 (Int32.not_lt.mpr z.2.2))))
      · refine x_iconst (v := 1) dX12_isLineBy_26 (by decide) ?_
        refine x_goto (tgt := 31) dX12_isLineBy_27 (by decide) ?_
        exact x_ireturn dX12_isLineBy_31 rfl rfl (fin hq (by first | exact bI_t ⟨h5, h13, Int32.not_lt.mp h23⟩ | exact bI_f (fun z => h5 z.1) | exact bI_f (fun z => h13 z.2.1) | exact bI_f (fun z => absurd h23 (Int32.not_lt.mpr z.2.2))))
theorem c_X12_days {n : Int32} (h0 : seti σ 0 0 = σ0) (hq : Q (some (.int (aDays σ0 n))) (mm ad (nDays σ0 n))) : CT G (d + 1) (0, 0) MX12_days [.ref (ad 99), .int n] (mm ad σ) Q := by
  refine CT.of rfl (Nat.le_of_ble_eq_true rfl) ?_
  refine x_aload_n dX12_days_0 rfl rfl ?_
  refine x_iconst (v := 0) dX12_days_1 (by decide) ?_
  refine xm_puti dX12_days_2 lp_X12_138 vmq_0 vmn_0 vmf_0 ?_
  rw [h0]
  refine x_iload_n dX12_days_5 rfl rfl ?_
  refine x_iconst (v := 0) dX12_days_6 (by decide) ?_
  refine x_sipush (v := 400) dX12_days_7 (by decide) ?_
  refine x_cS3 dX12_days_10 ls_X12_145 rfl  (c_X12_isIn ?_)
  refine x_if_eq_b (tgt := 28) dX12_days_13 (by decide) (fun h13 => ?_) (fun h13 => ?_)
  · refine x_iconst (v := -1) dX12_days_28 (by decide) ?_
    exact x_ireturn dX12_days_29 rfl rfl (fin_f (m := mm ad) hq (fun z => by first | exact h13 z.1 | exact h25 z.2))
  · refine x_aload_n dX12_days_16 rfl rfl ?_
    refine xm_geti dX12_days_17 lf_X12_142 vmi_1 ?_
    refine x_iload_n dX12_days_20 rfl rfl ?_
    refine x_iadd dX12_days_21 ?_
    refine x_sipush (v := 1000) dX12_days_22 (by decide) ?_
    refine x_icmp_le (tgt := 30) dX12_days_25 (by decide) (fun h25 => ?_) (fun h25 => ?_)
    · refine x_aload_n dX12_days_30 rfl rfl ?_
      refine x_dup dX12_days_31 rfl ?_
      refine xm_geti dX12_days_32 lf_X12_142 vmi_1 ?_
      refine x_iload_n dX12_days_35 rfl rfl ?_
      refine x_iadd dX12_days_36 ?_
      refine xm_puti dX12_days_37 lp_X12_142 vmq_1 vmn_1 vmf_1 ?_
      refine x_aload_n dX12_days_40 rfl rfl ?_
      refine xm_geti dX12_days_41 lf_X12_142 vmi_1 ?_
      exact x_ireturn dX12_days_44 rfl rfl (fin_t (m := mm ad) hq ⟨h13, h25⟩ rfl)
    · refine x_iconst (v := -1) dX12_days_28 (by decide) ?_
      exact x_ireturn dX12_days_29 rfl rfl (fin_f (m := mm ad) hq (fun z => by first | exact h13 z.1 | exact h25 z.2))
theorem c_X12_person {a b c : Int32} (hi : adOK ad) (h0 : seti σ 0 0 = σ0) (hc : Cnt σ0) (hq : Q (some (.int (aPerson σ0 a b c))) (mm ad (nPerson σ0 a b c))) : CT G (d + 1) (0, 0) MX12_person [.ref (ad 99), .int a, .int b, .int c] (mm ad σ) Q := by
  obtain ⟨hl1, hl2⟩ := hc.b 15 (b := 24) (by decide)
  refine CT.of rfl (Nat.le_of_ble_eq_true rfl) ?_
  refine x_aload_n dX12_person_0 rfl rfl ?_
  refine x_iconst (v := 0) dX12_person_1 (by decide) ?_
  refine xm_puti dX12_person_2 lp_X12_138 vmq_0 vmn_0 vmf_0 ?_
  rw [h0]
  refine x_aload_n dX12_person_5 rfl rfl ?_
  refine xm_geti dX12_person_6 lf_X12_149 vmi_15 ?_
  refine x_bipush (v := 24) dX12_person_9 (by decide) ?_
  refine x_icmp_eq (tgt := 45) dX12_person_11 (by decide) (fun h11 => ?_) (fun h11 => ?_)
  · refine x_iconst (v := -1) dX12_person_45 (by decide) ?_
    exact x_ireturn dX12_person_46 rfl rfl (fin_f (m := mm ad) hq (fun z => by first | exact z.1 h11 | exact h21 z.2.1 | exact h32 z.2.2.1 | exact h42 z.2.2.2))
  · refine x_iload_n dX12_person_14 rfl rfl ?_
    refine x_iconst (v := 0) dX12_person_15 (by decide) ?_
    refine x_bipush (v := 7) dX12_person_16 (by decide) ?_
    refine x_cS3 dX12_person_18 ls_X12_145 rfl  (c_X12_isIn ?_)
    refine x_if_eq_b (tgt := 45) dX12_person_21 (by decide) (fun h21 => ?_) (fun h21 => ?_)
    · refine x_iconst (v := -1) dX12_person_45 (by decide) ?_
      exact x_ireturn dX12_person_46 rfl rfl (fin_f (m := mm ad) hq (fun z => by first | exact z.1 h11 | exact h21 z.2.1 | exact h32 z.2.2.1 | exact h42 z.2.2.2))
    · refine x_iload_n dX12_person_24 rfl rfl ?_
      refine x_bipush (v := 10) dX12_person_25 (by decide) ?_
      refine x_bipush (v := 99) dX12_person_27 (by decide) ?_
      refine x_cS3 dX12_person_29 ls_X12_145 rfl  (c_X12_isIn ?_)
      refine x_if_eq_b (tgt := 45) dX12_person_32 (by decide) (fun h32 => ?_) (fun h32 => ?_)
      · refine x_iconst (v := -1) dX12_person_45 (by decide) ?_
        exact x_ireturn dX12_person_46 rfl rfl (fin_f (m := mm ad) hq (fun z => by first | exact z.1 h11 | exact h21 z.2.1 | exact h32 z.2.2.1 | exact h42 z.2.2.2))
      · refine x_iload_n dX12_person_35 rfl rfl ?_
        refine x_iconst (v := 0) dX12_person_36 (by decide) ?_
        refine x_bipush (v := 7) dX12_person_37 (by decide) ?_
        refine x_cS3 dX12_person_39 ls_X12_145 rfl  (c_X12_isIn ?_)
        refine x_if_ne_b (tgt := 47) dX12_person_42 (by decide) (fun h42 => ?_) (fun h42 => ?_)
        · have hin := in_cnt hl1 hl2 (v := 24) rfl h11 (by decide)
          refine x_aload_n dX12_person_47 rfl rfl ?_
          refine xm_geta dX12_person_48 lf_X12_9 vma_2 ?_
          refine x_aload_n dX12_person_51 rfl rfl ?_
          refine xm_geti dX12_person_52 lf_X12_149 vmi_15 ?_
          refine x_iload_n dX12_person_55 rfl rfl ?_
          refine xm_iast 2 dX12_person_56 mf_2 hi hin rfl ?_
          refine x_aload_n dX12_person_57 rfl rfl ?_
          refine xm_geta dX12_person_58 lf_X12_13 vma_3 ?_
          refine x_aload_n dX12_person_61 rfl rfl ?_
          refine xm_geti dX12_person_62 lf_X12_149 vmi_15 ?_
          refine x_iload_n dX12_person_65 rfl rfl ?_
          refine xm_iast 3 dX12_person_66 mf_3 hi hin rfl ?_
          refine x_aload_n dX12_person_67 rfl rfl ?_
          refine xm_geta dX12_person_68 lf_X12_16 vma_4 ?_
          refine x_aload_n dX12_person_71 rfl rfl ?_
          refine xm_geti dX12_person_72 lf_X12_149 vmi_15 ?_
          refine x_iload_n dX12_person_75 rfl rfl ?_
          refine xm_iast 4 dX12_person_76 mf_4 hi hin rfl ?_
          refine x_aload_n dX12_person_77 rfl rfl ?_
          refine x_dup dX12_person_78 rfl ?_
          refine xm_geti dX12_person_79 lf_X12_149 vmi_15 ?_
          refine x_iconst (v := 1) dX12_person_82 (by decide) ?_
          refine x_iadd dX12_person_83 ?_
          refine xm_puti dX12_person_84 lp_X12_149 vmq_15 vmn_15 vmf_15 ?_
          refine x_aload_n dX12_person_87 rfl rfl ?_
          refine xm_geti dX12_person_88 lf_X12_149 vmi_15 ?_
          refine x_iconst (v := 1) dX12_person_91 (by decide) ?_
          refine x_isub dX12_person_92 ?_
          exact x_ireturn dX12_person_93 rfl rfl (fin_t (m := mm ad) hq ⟨h11, h21, h32, h42⟩ (add_sub1 _).symm)
        · refine x_iconst (v := -1) dX12_person_45 (by decide) ?_
          exact x_ireturn dX12_person_46 rfl rfl (fin_f (m := mm ad) hq (fun z => by first | exact z.1 h11 | exact h21 z.2.1 | exact h32 z.2.2.1 | exact h42 z.2.2.2))
theorem c_X12_stopsFrom {p q : Int32} (hi : adOK ad) (hc : Cnt σ) (hq : Q (some (.int (spStop σ p q (cn σ 17)))) (mm ad σ)) : CT G d (0, 0) MX12_stopsFrom [.ref (ad 99), .int p, .int q] (mm ad σ) Q := by
  obtain ⟨hl1, hl2⟩ := hc.b 17 (b := 60) (by decide)
  refine CT.of rfl (Nat.le_of_ble_eq_true rfl) ?_
  refine x_iconst (v := -1) dX12_stopsFrom_0 (by decide) ?_
  refine x_istore_n dX12_stopsFrom_1 rfl (by decide) ?_
  refine x_iconst (v := 0) dX12_stopsFrom_2 (by decide) ?_
  refine x_istore dX12_stopsFrom_3 (by decide) ?_
  refine x_loc [(0, .ref (ad 99)), (1, .int p), (2, .int q), (3, .int (spStop σ p q 0)), (4, .int (nI 0))] ⟨rfl, rfl, rfl, rfl, rfl, trivial⟩ ?_
  refine loop_up (P := fun i => XJ G d (0, 0) MX12_stopsFrom (mm ad σ) [(0, .ref (ad 99)), (1, .int p), (2, .int q), (3, .int (spStop σ p q i)), (4, .int (nI i))] [] 5 Q) (n := cn σ 17) ?_ ?_ 0 (Nat.zero_le _)
  · refine x_iload dX12_stopsFrom_5 rfl ?_
    refine x_aload_n dX12_stopsFrom_7 rfl rfl ?_
    refine xm_geti dX12_stopsFrom_8 lf_X12_162 vmi_17 ?_
    refine x_icmp_ge (tgt := 50) dX12_stopsFrom_11 (by decide) (fun _ => ?_) (fun z => absurd (loopT hl1) z)
    refine x_iload_n dX12_stopsFrom_50 rfl rfl ?_
    exact x_ireturn dX12_stopsFrom_51 rfl rfl (hq)
  · intro i hlt ih
    have hin : vp_in (nI i) 60 := vp_in_nI (by omega) (by decide)
    have hcl : (nI i).toNatClampNeg = i := nI_clamp (by omega)
    refine x_iload dX12_stopsFrom_5 rfl ?_
    refine x_aload_n dX12_stopsFrom_7 rfl rfl ?_
    refine xm_geti dX12_stopsFrom_8 lf_X12_162 vmi_17 ?_
    refine x_icmp_ge (tgt := 50) dX12_stopsFrom_11 (by decide) (fun z => absurd z (loopF hl1 hlt (by omega))) (fun _ => ?_)
    refine x_aload_n dX12_stopsFrom_14 rfl rfl ?_
    refine xm_geta dX12_stopsFrom_15 lf_X12_19 vma_5 ?_
    refine x_iload dX12_stopsFrom_18 rfl ?_
    refine xm_iald 5 dX12_stopsFrom_20 mf_5 hi hin hcl ?_
    refine x_iload_n dX12_stopsFrom_21 rfl rfl ?_
    refine x_icmp_ne (tgt := 44) dX12_stopsFrom_22 (by decide) (fun h22 => ?_) (fun h22 => ?_)
    · refine x_iinc (c := 1) dX12_stopsFrom_44 rfl (by decide) ?_
      refine x_goto (tgt := 5) dX12_stopsFrom_47 (by decide) ?_
      refine x_loc _ (?_ : lle _ _) ih
      refine ⟨rfl, rfl, rfl, ?_, ?_, trivial⟩
      · show some (Value.int _) = some (Value.int (if σ.2 5 i = p ∧ σ.2 7 i ≤ q then σ.2 6 i else spStop σ p q i))
        clear ih hq; grind
      · show some (Value.int _) = some (Value.int (nI (i + 1)))
        rw [← nI_1]
    · refine x_aload_n dX12_stopsFrom_25 rfl rfl ?_
      refine xm_geta dX12_stopsFrom_26 lf_X12_25 vma_7 ?_
      refine x_iload dX12_stopsFrom_29 rfl ?_
      refine xm_iald 7 dX12_stopsFrom_31 mf_7 hi hin hcl ?_
      refine x_iload_n dX12_stopsFrom_32 rfl rfl ?_
      refine x_icmp_gt (tgt := 44) dX12_stopsFrom_33 (by decide) (fun h33 => ?_) (fun h33 => ?_)
      · refine x_iinc (c := 1) dX12_stopsFrom_44 rfl (by decide) ?_
        refine x_goto (tgt := 5) dX12_stopsFrom_47 (by decide) ?_
        refine x_loc _ (?_ : lle _ _) ih
        refine ⟨rfl, rfl, rfl, ?_, ?_, trivial⟩
        · show some (Value.int _) = some (Value.int (if σ.2 5 i = p ∧ σ.2 7 i ≤ q then σ.2 6 i else spStop σ p q i))
          clear ih hq; grind
        · show some (Value.int _) = some (Value.int (nI (i + 1)))
          rw [← nI_1]
      · refine x_aload_n dX12_stopsFrom_36 rfl rfl ?_
        refine xm_geta dX12_stopsFrom_37 lf_X12_22 vma_6 ?_
        refine x_iload dX12_stopsFrom_40 rfl ?_
        refine xm_iald 6 dX12_stopsFrom_42 mf_6 hi hin hcl ?_
        refine x_istore_n dX12_stopsFrom_43 rfl (by decide) ?_
        refine x_iinc (c := 1) dX12_stopsFrom_44 rfl (by decide) ?_
        refine x_goto (tgt := 5) dX12_stopsFrom_47 (by decide) ?_
        refine x_loc _ (?_ : lle _ _) ih
        refine ⟨rfl, rfl, rfl, ?_, ?_, trivial⟩
        · show some (Value.int _) = some (Value.int (if σ.2 5 i = p ∧ σ.2 7 i ≤ q then σ.2 6 i else spStop σ p q i))
          clear ih hq; grind
        · show some (Value.int _) = some (Value.int (nI (i + 1)))
          rw [← nI_1]
theorem c_X12_stop {p day : Int32} (hi : adOK ad) (h0 : seti σ 0 0 = σ0) (hc : Cnt σ0) (hq : Q (some (.int (aStop σ0 p day))) (mm ad (nStop σ0 p day))) : CT G (d + 2) (0, 0) MX12_stop [.ref (ad 99), .int p, .int day] (mm ad σ) Q := by
  obtain ⟨hl1, hl2⟩ := hc.b 17 (b := 60) (by decide)
  refine CT.of rfl (Nat.le_of_ble_eq_true rfl) ?_
  refine x_aload_n dX12_stop_0 rfl rfl ?_
  refine x_iconst (v := 0) dX12_stop_1 (by decide) ?_
  refine xm_puti dX12_stop_2 lp_X12_138 vmq_0 vmn_0 vmf_0 ?_
  rw [h0]
  refine x_aload_n dX12_stop_5 rfl rfl ?_
  refine xm_geti dX12_stop_6 lf_X12_162 vmi_17 ?_
  refine x_bipush (v := 60) dX12_stop_9 (by decide) ?_
  refine x_icmp_eq (tgt := 29) dX12_stop_11 (by decide) (fun h11 => ?_) (fun h11 => ?_)
  · refine x_iconst (v := 0) dX12_stop_29 (by decide) ?_
    exact x_ireturn dX12_stop_30 rfl rfl (fbn_f (m := mm ad) hq (fun z => by first | exact z.1 h11 | exact h19 z.2.1 | exact h26 z.2.2))
  · refine x_aload_n dX12_stop_14 rfl rfl ?_
    refine x_iload_n dX12_stop_15 rfl rfl ?_
    refine x_cV1 dX12_stop_16 lv_X12_165 mm_obj rfl rfl rfl  (c_X12_isPerson ?_)
    refine x_if_eq_b (tgt := 29) dX12_stop_19 (by decide) (fun h19 => ?_) (fun h19 => ?_)
    · refine x_iconst (v := 0) dX12_stop_29 (by decide) ?_
      exact x_ireturn dX12_stop_30 rfl rfl (fbn_f (m := mm ad) hq (fun z => by first | exact z.1 h11 | exact h19 z.2.1 | exact h26 z.2.2))
    · refine x_iload_n dX12_stop_22 rfl rfl ?_
      refine x_cS1 dX12_stop_23 ls_X12_175 rfl  (c_X12_isDay ?_)
      refine x_if_ne_b (tgt := 31) dX12_stop_26 (by decide) (fun h26 => ?_) (fun h26 => ?_)
      · have hin := in_cnt hl1 hl2 (v := 60) rfl h11 (by decide)
        refine x_aload_n dX12_stop_31 rfl rfl ?_
        refine xm_geta dX12_stop_32 lf_X12_19 vma_5 ?_
        refine x_aload_n dX12_stop_35 rfl rfl ?_
        refine xm_geti dX12_stop_36 lf_X12_162 vmi_17 ?_
        refine x_iload_n dX12_stop_39 rfl rfl ?_
        refine xm_iast 5 dX12_stop_40 mf_5 hi hin rfl ?_
        refine x_aload_n dX12_stop_41 rfl rfl ?_
        refine xm_geta dX12_stop_42 lf_X12_22 vma_6 ?_
        refine x_aload_n dX12_stop_45 rfl rfl ?_
        refine xm_geti dX12_stop_46 lf_X12_162 vmi_17 ?_
        refine x_iload_n dX12_stop_49 rfl rfl ?_
        refine xm_iast 6 dX12_stop_50 mf_6 hi hin rfl ?_
        refine x_aload_n dX12_stop_51 rfl rfl ?_
        refine xm_geta dX12_stop_52 lf_X12_25 vma_7 ?_
        refine x_aload_n dX12_stop_55 rfl rfl ?_
        refine xm_geti dX12_stop_56 lf_X12_162 vmi_17 ?_
        refine x_aload_n dX12_stop_59 rfl rfl ?_
        refine xm_geti dX12_stop_60 lf_X12_142 vmi_1 ?_
        refine xm_iast 7 dX12_stop_63 mf_7 hi hin rfl ?_
        refine x_aload_n dX12_stop_64 rfl rfl ?_
        refine x_dup dX12_stop_65 rfl ?_
        refine xm_geti dX12_stop_66 lf_X12_162 vmi_17 ?_
        refine x_iconst (v := 1) dX12_stop_69 (by decide) ?_
        refine x_iadd dX12_stop_70 ?_
        refine xm_puti dX12_stop_71 lp_X12_162 vmq_17 vmn_17 vmf_17 ?_
        refine x_iconst (v := 1) dX12_stop_74 (by decide) ?_
        exact x_ireturn dX12_stop_75 rfl rfl (fbn_t (m := mm ad) hq ⟨h11, h19, h26⟩)
      · refine x_iconst (v := 0) dX12_stop_29 (by decide) ?_
        exact x_ireturn dX12_stop_30 rfl rfl (fbn_f (m := mm ad) hq (fun z => by first | exact z.1 h11 | exact h19 z.2.1 | exact h26 z.2.2))
theorem c_X12_stopped {p q : Int32} (hi : adOK ad) (h0 : seti σ 0 0 = σ0) (hc : Cnt σ0) (hq : Q (some (.int (aStopped σ0 p q))) (mm ad σ0)) : CT G (d + 2) (0, 0) MX12_stopped [.ref (ad 99), .int p, .int q] (mm ad σ) Q := by
  refine CT.of rfl (Nat.le_of_ble_eq_true rfl) ?_
  refine x_aload_n dX12_stopped_0 rfl rfl ?_
  refine x_iconst (v := 0) dX12_stopped_1 (by decide) ?_
  refine xm_puti dX12_stopped_2 lp_X12_138 vmq_0 vmn_0 vmf_0 ?_
  rw [h0]
  refine x_aload_n dX12_stopped_5 rfl rfl ?_
  refine x_iload_n dX12_stopped_6 rfl rfl ?_
  refine x_cV1 dX12_stopped_7 lv_X12_165 mm_obj rfl rfl rfl  (c_X12_isPerson ?_)
  refine x_if_eq_b (tgt := 30) dX12_stopped_10 (by decide) (fun h10 => ?_) (fun h10 => ?_)
  · refine x_iconst (v := -1) dX12_stopped_30 (by decide) ?_
    exact x_ireturn dX12_stopped_31 rfl rfl (by first | exact fan_t hq ⟨h10, h18⟩ | exact fan_f hq (fun z => h10 z.1) | exact fan_f hq (fun z => h18 z.2))
  · refine x_aload_n dX12_stopped_13 rfl rfl ?_
    refine x_iload_n dX12_stopped_14 rfl rfl ?_
    refine x_cV1 dX12_stopped_15 lv_X12_159 mm_obj rfl rfl rfl  (c_X12_isKnown ?_)
    refine x_if_eq_b (tgt := 30) dX12_stopped_18 (by decide) (fun h18 => ?_) (fun h18 => ?_)
    · refine x_iconst (v := -1) dX12_stopped_30 (by decide) ?_
      exact x_ireturn dX12_stopped_31 rfl rfl (by first | exact fan_t hq ⟨h10, h18⟩ | exact fan_f hq (fun z => h10 z.1) | exact fan_f hq (fun z => h18 z.2))
    · refine x_aload_n dX12_stopped_21 rfl rfl ?_
      refine x_iload_n dX12_stopped_22 rfl rfl ?_
      refine x_iload_n dX12_stopped_23 rfl rfl ?_
      refine x_cV2 dX12_stopped_24 lv_X12_171 mm_obj rfl rfl rfl  (c_X12_stopsFrom hi hc ?_)
      refine x_goto (tgt := 31) dX12_stopped_27 (by decide) ?_
      exact x_ireturn dX12_stopped_31 rfl rfl (by first | exact fan_t hq ⟨h10, h18⟩ | exact fan_f hq (fun z => h10 z.1) | exact fan_f hq (fun z => h18 z.2))
theorem c_X12_line {p day sort mood say src : Int32} (hi : adOK ad) (h0 : seti σ 0 0 = σ0) (hc : Cnt σ0) (hq : Q (some (.int (aLine σ0 p day sort mood say src))) (mm ad (nLine σ0 p day sort mood say src))) : CT G (d + 2) (0, 0) MX12_line [.ref (ad 99), .int p, .int day, .int sort, .int mood, .int say, .int src] (mm ad σ) Q := by
  obtain ⟨hl1, hl2⟩ := hc.b 16 (b := 200) (by decide)
  refine CT.of rfl (Nat.le_of_ble_eq_true rfl) ?_
  refine x_aload_n dX12_line_0 rfl rfl ?_
  refine x_iconst (v := 0) dX12_line_1 (by decide) ?_
  refine xm_puti dX12_line_2 lp_X12_138 vmq_0 vmn_0 vmf_0 ?_
  rw [h0]
  refine x_aload_n dX12_line_5 rfl rfl ?_
  refine xm_geti dX12_line_6 lf_X12_152 vmi_16 ?_
  refine x_sipush (v := 200) dX12_line_9 (by decide) ?_
  refine x_icmp_eq (tgt := 65) dX12_line_12 (by decide) (fun h12 => ?_) (fun h12 => ?_)
  · refine x_iconst (v := -1) dX12_line_65 (by decide) ?_
    exact x_ireturn dX12_line_66 rfl rfl (fin_f (m := mm ad) hq (fun z => by first | exact z.1 h12 | exact h20 z.2.1 | exact h32 z.2.2.1 | exact h39 z.2.2.2.1 | exact h51 z.2.2.2.2.1 | exact h62 z.2.2.2.2.2.1))
  · refine x_aload_n dX12_line_15 rfl rfl ?_
    refine x_iload_n dX12_line_16 rfl rfl ?_
    refine x_cV1 dX12_line_17 lv_X12_165 mm_obj rfl rfl rfl  (c_X12_isPerson ?_)
    refine x_if_eq_b (tgt := 65) dX12_line_20 (by decide) (fun h20 => ?_) (fun h20 => ?_)
    · refine x_iconst (v := -1) dX12_line_65 (by decide) ?_
      exact x_ireturn dX12_line_66 rfl rfl (fin_f (m := mm ad) hq (fun z => by first | exact z.1 h12 | exact h20 z.2.1 | exact h32 z.2.2.1 | exact h39 z.2.2.2.1 | exact h51 z.2.2.2.2.1 | exact h62 z.2.2.2.2.2.1))
    · refine x_iload_n dX12_line_23 rfl rfl ?_
      refine x_iconst (v := 0) dX12_line_24 (by decide) ?_
      refine x_aload_n dX12_line_25 rfl rfl ?_
      refine xm_geti dX12_line_26 lf_X12_142 vmi_1 ?_
      refine x_cS3 dX12_line_29 ls_X12_145 rfl  (c_X12_isIn ?_)
      refine x_if_eq_b (tgt := 65) dX12_line_32 (by decide) (fun h32 => ?_) (fun h32 => ?_)
      · refine x_iconst (v := -1) dX12_line_65 (by decide) ?_
        exact x_ireturn dX12_line_66 rfl rfl (fin_f (m := mm ad) hq (fun z => by first | exact z.1 h12 | exact h20 z.2.1 | exact h32 z.2.2.1 | exact h39 z.2.2.2.1 | exact h51 z.2.2.2.2.1 | exact h62 z.2.2.2.2.2.1))
      · refine x_iload_n dX12_line_35 rfl rfl ?_
        refine x_cS1 dX12_line_36 ls_X12_168 rfl  (c_X12_isSort ?_)
        refine x_if_eq_b (tgt := 65) dX12_line_39 (by decide) (fun h39 => ?_) (fun h39 => ?_)
        · refine x_iconst (v := -1) dX12_line_65 (by decide) ?_
          exact x_ireturn dX12_line_66 rfl rfl (fin_f (m := mm ad) hq (fun z => by first | exact z.1 h12 | exact h20 z.2.1 | exact h32 z.2.2.1 | exact h39 z.2.2.2.1 | exact h51 z.2.2.2.2.1 | exact h62 z.2.2.2.2.2.1))
        · refine x_iload dX12_line_42 rfl ?_
          refine x_bipush (v := -9) dX12_line_44 (by decide) ?_
          refine x_bipush (v := 9) dX12_line_46 (by decide) ?_
          refine x_cS3 dX12_line_48 ls_X12_145 rfl  (c_X12_isIn ?_)
          refine x_if_eq_b (tgt := 65) dX12_line_51 (by decide) (fun h51 => ?_) (fun h51 => ?_)
          · refine x_iconst (v := -1) dX12_line_65 (by decide) ?_
            exact x_ireturn dX12_line_66 rfl rfl (fin_f (m := mm ad) hq (fun z => by first | exact z.1 h12 | exact h20 z.2.1 | exact h32 z.2.2.1 | exact h39 z.2.2.2.1 | exact h51 z.2.2.2.2.1 | exact h62 z.2.2.2.2.2.1))
          · refine x_iload dX12_line_54 rfl ?_
            refine x_iconst (v := -1) dX12_line_56 (by decide) ?_
            refine x_bipush (v := 29) dX12_line_57 (by decide) ?_
            refine x_cS3 dX12_line_59 ls_X12_145 rfl  (c_X12_isIn ?_)
            refine x_if_ne_b (tgt := 67) dX12_line_62 (by decide) (fun h62 => ?_) (fun h62 => ?_)
            · have hin := in_cnt hl1 hl2 (v := 200) rfl h12 (by decide)
              refine x_iload dX12_line_67 rfl ?_
              refine x_iconst (v := -1) dX12_line_69 (by decide) ?_
              refine x_icmp_eq (tgt := 96) dX12_line_70 (by decide) (fun h70 => ?_) (fun h70 => ?_)
              · refine x_aload_n dX12_line_96 rfl rfl ?_
                refine x_iload_n dX12_line_97 rfl rfl ?_
                refine x_aload_n dX12_line_98 rfl rfl ?_
                refine xm_geti dX12_line_99 lf_X12_142 vmi_1 ?_
                refine x_cV2 dX12_line_102 lv_X12_171 mm_obj rfl rfl rfl  (c_X12_stopsFrom hi hc ?_)
                refine x_istore dX12_line_105 (by decide) ?_
                refine x_iload dX12_line_107 rfl ?_
                refine x_iconst (v := -1) dX12_line_109 (by decide) ?_
                refine x_icmp_eq (tgt := 121) dX12_line_110 (by decide) (fun h110 => ?_) (fun h110 => ?_)
                · refine x_aload_n dX12_line_121 rfl rfl ?_
                  refine xm_geta dX12_line_122 lf_X12_28 vma_8 ?_
                  refine x_aload_n dX12_line_125 rfl rfl ?_
                  refine xm_geti dX12_line_126 lf_X12_152 vmi_16 ?_
                  refine x_iload_n dX12_line_129 rfl rfl ?_
                  refine xm_iast 8 dX12_line_130 mf_8 hi hin rfl ?_
                  refine x_aload_n dX12_line_131 rfl rfl ?_
                  refine xm_geta dX12_line_132 lf_X12_31 vma_9 ?_
                  refine x_aload_n dX12_line_135 rfl rfl ?_
                  refine xm_geti dX12_line_136 lf_X12_152 vmi_16 ?_
                  refine x_iload_n dX12_line_139 rfl rfl ?_
                  refine xm_iast 9 dX12_line_140 mf_9 hi hin rfl ?_
                  refine x_aload_n dX12_line_141 rfl rfl ?_
                  refine xm_geta dX12_line_142 lf_X12_34 vma_10 ?_
                  refine x_aload_n dX12_line_145 rfl rfl ?_
                  refine xm_geti dX12_line_146 lf_X12_152 vmi_16 ?_
                  refine x_iload_n dX12_line_149 rfl rfl ?_
                  refine xm_iast 10 dX12_line_150 mf_10 hi hin rfl ?_
                  refine x_aload_n dX12_line_151 rfl rfl ?_
                  refine xm_geta dX12_line_152 lf_X12_37 vma_11 ?_
                  refine x_aload_n dX12_line_155 rfl rfl ?_
                  refine xm_geti dX12_line_156 lf_X12_152 vmi_16 ?_
                  refine x_iload dX12_line_159 rfl ?_
                  refine xm_iast 11 dX12_line_161 mf_11 hi hin rfl ?_
                  refine x_aload_n dX12_line_162 rfl rfl ?_
                  refine xm_geta dX12_line_163 lf_X12_40 vma_12 ?_
                  refine x_aload_n dX12_line_166 rfl rfl ?_
                  refine xm_geti dX12_line_167 lf_X12_152 vmi_16 ?_
                  refine x_iload dX12_line_170 rfl ?_
                  refine xm_iast 12 dX12_line_172 mf_12 hi hin rfl ?_
                  refine x_aload_n dX12_line_173 rfl rfl ?_
                  refine xm_geta dX12_line_174 lf_X12_43 vma_13 ?_
                  refine x_aload_n dX12_line_177 rfl rfl ?_
                  refine xm_geti dX12_line_178 lf_X12_152 vmi_16 ?_
                  refine x_iload dX12_line_181 rfl ?_
                  refine xm_iast 13 dX12_line_183 mf_13 hi hin rfl ?_
                  refine x_aload_n dX12_line_184 rfl rfl ?_
                  refine xm_geta dX12_line_185 lf_X12_46 vma_14 ?_
                  refine x_aload_n dX12_line_188 rfl rfl ?_
                  refine xm_geti dX12_line_189 lf_X12_152 vmi_16 ?_
                  refine x_aload_n dX12_line_192 rfl rfl ?_
                  refine xm_geti dX12_line_193 lf_X12_142 vmi_1 ?_
                  refine xm_iast 14 dX12_line_196 mf_14 hi hin rfl ?_
                  refine x_aload_n dX12_line_197 rfl rfl ?_
                  refine x_dup dX12_line_198 rfl ?_
                  refine xm_geti dX12_line_199 lf_X12_152 vmi_16 ?_
                  refine x_iconst (v := 1) dX12_line_202 (by decide) ?_
                  refine x_iadd dX12_line_203 ?_
                  refine xm_puti dX12_line_204 lp_X12_152 vmq_16 vmn_16 vmf_16 ?_
                  refine x_aload_n dX12_line_207 rfl rfl ?_
                  refine xm_geti dX12_line_208 lf_X12_152 vmi_16 ?_
                  refine x_iconst (v := 1) dX12_line_211 (by decide) ?_
                  refine x_isub dX12_line_212 ?_
                  exact x_ireturn dX12_line_213 rfl rfl (fin_t (m := mm ad) hq ⟨h12, h20, h32, h39, h51, h62, by first | exact Or.inl h70 | exact Or.inr ⟨h79, h85, h91⟩, fun z => by first | exact z.1 h110 | exact absurd h116 (Int32.not_lt.mpr z.2)⟩ (add_sub1 _).symm)
                · refine x_iload dX12_line_113 rfl ?_
                  refine x_iload_n dX12_line_115 rfl rfl ?_
                  refine x_icmp_gt (tgt := 121) dX12_line_116 (by decide) (fun h116 => ?_) (fun h116 => ?_)
                  · refine x_aload_n dX12_line_121 rfl rfl ?_
                    refine xm_geta dX12_line_122 lf_X12_28 vma_8 ?_
                    refine x_aload_n dX12_line_125 rfl rfl ?_
                    refine xm_geti dX12_line_126 lf_X12_152 vmi_16 ?_
                    refine x_iload_n dX12_line_129 rfl rfl ?_
                    refine xm_iast 8 dX12_line_130 mf_8 hi hin rfl ?_
                    refine x_aload_n dX12_line_131 rfl rfl ?_
                    refine xm_geta dX12_line_132 lf_X12_31 vma_9 ?_
                    refine x_aload_n dX12_line_135 rfl rfl ?_
                    refine xm_geti dX12_line_136 lf_X12_152 vmi_16 ?_
                    refine x_iload_n dX12_line_139 rfl rfl ?_
                    refine xm_iast 9 dX12_line_140 mf_9 hi hin rfl ?_
                    refine x_aload_n dX12_line_141 rfl rfl ?_
                    refine xm_geta dX12_line_142 lf_X12_34 vma_10 ?_
                    refine x_aload_n dX12_line_145 rfl rfl ?_
                    refine xm_geti dX12_line_146 lf_X12_152 vmi_16 ?_
                    refine x_iload_n dX12_line_149 rfl rfl ?_
                    refine xm_iast 10 dX12_line_150 mf_10 hi hin rfl ?_
                    refine x_aload_n dX12_line_151 rfl rfl ?_
                    refine xm_geta dX12_line_152 lf_X12_37 vma_11 ?_
                    refine x_aload_n dX12_line_155 rfl rfl ?_
                    refine xm_geti dX12_line_156 lf_X12_152 vmi_16 ?_
                    refine x_iload dX12_line_159 rfl ?_
                    refine xm_iast 11 dX12_line_161 mf_11 hi hin rfl ?_
                    refine x_aload_n dX12_line_162 rfl rfl ?_
                    refine xm_geta dX12_line_163 lf_X12_40 vma_12 ?_
                    refine x_aload_n dX12_line_166 rfl rfl ?_
                    refine xm_geti dX12_line_167 lf_X12_152 vmi_16 ?_
                    refine x_iload dX12_line_170 rfl ?_
                    refine xm_iast 12 dX12_line_172 mf_12 hi hin rfl ?_
                    refine x_aload_n dX12_line_173 rfl rfl ?_
                    refine xm_geta dX12_line_174 lf_X12_43 vma_13 ?_
                    refine x_aload_n dX12_line_177 rfl rfl ?_
                    refine xm_geti dX12_line_178 lf_X12_152 vmi_16 ?_
                    refine x_iload dX12_line_181 rfl ?_
                    refine xm_iast 13 dX12_line_183 mf_13 hi hin rfl ?_
                    refine x_aload_n dX12_line_184 rfl rfl ?_
                    refine xm_geta dX12_line_185 lf_X12_46 vma_14 ?_
                    refine x_aload_n dX12_line_188 rfl rfl ?_
                    refine xm_geti dX12_line_189 lf_X12_152 vmi_16 ?_
                    refine x_aload_n dX12_line_192 rfl rfl ?_
                    refine xm_geti dX12_line_193 lf_X12_142 vmi_1 ?_
                    refine xm_iast 14 dX12_line_196 mf_14 hi hin rfl ?_
                    refine x_aload_n dX12_line_197 rfl rfl ?_
                    refine x_dup dX12_line_198 rfl ?_
                    refine xm_geti dX12_line_199 lf_X12_152 vmi_16 ?_
                    refine x_iconst (v := 1) dX12_line_202 (by decide) ?_
                    refine x_iadd dX12_line_203 ?_
                    refine xm_puti dX12_line_204 lp_X12_152 vmq_16 vmn_16 vmf_16 ?_
                    refine x_aload_n dX12_line_207 rfl rfl ?_
                    refine xm_geti dX12_line_208 lf_X12_152 vmi_16 ?_
                    refine x_iconst (v := 1) dX12_line_211 (by decide) ?_
                    refine x_isub dX12_line_212 ?_
                    exact x_ireturn dX12_line_213 rfl rfl (fin_t (m := mm ad) hq ⟨h12, h20, h32, h39, h51, h62, by first | exact Or.inl h70 | exact Or.inr ⟨h79, h85, h91⟩, fun z => by first | exact z.1 h110 | exact absurd h116 (Int32.not_lt.mpr z.2)⟩ (add_sub1 _).symm)
                  · refine x_iconst (v := -1) dX12_line_119 (by decide) ?_
                    exact x_ireturn dX12_line_120 rfl rfl (fin_f (m := mm ad) hq (fun z => z.2.2.2.2.2.2.2 ⟨h110, Int32.not_lt.mp h116⟩))
              · refine x_aload_n dX12_line_73 rfl rfl ?_
                refine x_iload dX12_line_74 rfl ?_
                refine x_cV1 dX12_line_76 lv_X12_165 mm_obj rfl rfl rfl  (c_X12_isPerson ?_)
                refine x_if_eq_b (tgt := 94) dX12_line_79 (by decide) (fun h79 => ?_) (fun h79 => ?_)
                · refine x_iconst (v := -1) dX12_line_94 (by decide) ?_
                  exact x_ireturn dX12_line_95 rfl rfl (fin_f (m := mm ad) hq (fun z => by
rcases z.2.2.2.2.2.2.1 with y | y
· exact h70 y
· first | exact h79 y.1 | exact y.2.1 h85 | exact y.2.2 h91))
                · refine x_iload dX12_line_82 rfl ?_
                  refine x_iload_n dX12_line_84 rfl rfl ?_
                  refine x_icmp_eq (tgt := 94) dX12_line_85 (by decide) (fun h85 => ?_) (fun h85 => ?_)
                  · refine x_iconst (v := -1) dX12_line_94 (by decide) ?_
                    exact x_ireturn dX12_line_95 rfl rfl (fin_f (m := mm ad) hq (fun z => by
rcases z.2.2.2.2.2.2.1 with y | y
· exact h70 y
· first | exact h79 y.1 | exact y.2.1 h85 | exact y.2.2 h91))
                  · refine x_iload dX12_line_88 rfl ?_
                    refine x_iconst (v := -1) dX12_line_90 (by decide) ?_
                    refine x_icmp_ne (tgt := 96) dX12_line_91 (by decide) (fun h91 => ?_) (fun h91 => ?_)
                    · refine x_aload_n dX12_line_96 rfl rfl ?_
                      refine x_iload_n dX12_line_97 rfl rfl ?_
                      refine x_aload_n dX12_line_98 rfl rfl ?_
                      refine xm_geti dX12_line_99 lf_X12_142 vmi_1 ?_
                      refine x_cV2 dX12_line_102 lv_X12_171 mm_obj rfl rfl rfl  (c_X12_stopsFrom hi hc ?_)
                      refine x_istore dX12_line_105 (by decide) ?_
                      refine x_iload dX12_line_107 rfl ?_
                      refine x_iconst (v := -1) dX12_line_109 (by decide) ?_
                      refine x_icmp_eq (tgt := 121) dX12_line_110 (by decide) (fun h110 => ?_) (fun h110 => ?_)
                      · refine x_aload_n dX12_line_121 rfl rfl ?_
                        refine xm_geta dX12_line_122 lf_X12_28 vma_8 ?_
                        refine x_aload_n dX12_line_125 rfl rfl ?_
                        refine xm_geti dX12_line_126 lf_X12_152 vmi_16 ?_
                        refine x_iload_n dX12_line_129 rfl rfl ?_
                        refine xm_iast 8 dX12_line_130 mf_8 hi hin rfl ?_
                        refine x_aload_n dX12_line_131 rfl rfl ?_
                        refine xm_geta dX12_line_132 lf_X12_31 vma_9 ?_
                        refine x_aload_n dX12_line_135 rfl rfl ?_
                        refine xm_geti dX12_line_136 lf_X12_152 vmi_16 ?_
                        refine x_iload_n dX12_line_139 rfl rfl ?_
                        refine xm_iast 9 dX12_line_140 mf_9 hi hin rfl ?_
                        refine x_aload_n dX12_line_141 rfl rfl ?_
                        refine xm_geta dX12_line_142 lf_X12_34 vma_10 ?_
                        refine x_aload_n dX12_line_145 rfl rfl ?_
                        refine xm_geti dX12_line_146 lf_X12_152 vmi_16 ?_
                        refine x_iload_n dX12_line_149 rfl rfl ?_
                        refine xm_iast 10 dX12_line_150 mf_10 hi hin rfl ?_
                        refine x_aload_n dX12_line_151 rfl rfl ?_
                        refine xm_geta dX12_line_152 lf_X12_37 vma_11 ?_
                        refine x_aload_n dX12_line_155 rfl rfl ?_
                        refine xm_geti dX12_line_156 lf_X12_152 vmi_16 ?_
                        refine x_iload dX12_line_159 rfl ?_
                        refine xm_iast 11 dX12_line_161 mf_11 hi hin rfl ?_
                        refine x_aload_n dX12_line_162 rfl rfl ?_
                        refine xm_geta dX12_line_163 lf_X12_40 vma_12 ?_
                        refine x_aload_n dX12_line_166 rfl rfl ?_
                        refine xm_geti dX12_line_167 lf_X12_152 vmi_16 ?_
                        refine x_iload dX12_line_170 rfl ?_
                        refine xm_iast 12 dX12_line_172 mf_12 hi hin rfl ?_
                        refine x_aload_n dX12_line_173 rfl rfl ?_
                        refine xm_geta dX12_line_174 lf_X12_43 vma_13 ?_
                        refine x_aload_n dX12_line_177 rfl rfl ?_
                        refine xm_geti dX12_line_178 lf_X12_152 vmi_16 ?_
                        refine x_iload dX12_line_181 rfl ?_
                        refine xm_iast 13 dX12_line_183 mf_13 hi hin rfl ?_
                        refine x_aload_n dX12_line_184 rfl rfl ?_
                        refine xm_geta dX12_line_185 lf_X12_46 vma_14 ?_
                        refine x_aload_n dX12_line_188 rfl rfl ?_
                        refine xm_geti dX12_line_189 lf_X12_152 vmi_16 ?_
                        refine x_aload_n dX12_line_192 rfl rfl ?_
                        refine xm_geti dX12_line_193 lf_X12_142 vmi_1 ?_
                        refine xm_iast 14 dX12_line_196 mf_14 hi hin rfl ?_
                        refine x_aload_n dX12_line_197 rfl rfl ?_
                        refine x_dup dX12_line_198 rfl ?_
                        refine xm_geti dX12_line_199 lf_X12_152 vmi_16 ?_
                        refine x_iconst (v := 1) dX12_line_202 (by decide) ?_
                        refine x_iadd dX12_line_203 ?_
                        refine xm_puti dX12_line_204 lp_X12_152 vmq_16 vmn_16 vmf_16 ?_
                        refine x_aload_n dX12_line_207 rfl rfl ?_
                        refine xm_geti dX12_line_208 lf_X12_152 vmi_16 ?_
                        refine x_iconst (v := 1) dX12_line_211 (by decide) ?_
                        refine x_isub dX12_line_212 ?_
                        exact x_ireturn dX12_line_213 rfl rfl (fin_t (m := mm ad) hq ⟨h12, h20, h32, h39, h51, h62, by first | exact Or.inl h70 | exact Or.inr ⟨h79, h85, h91⟩, fun z => by first | exact z.1 h110 | exact absurd h116 (Int32.not_lt.mpr z.2)⟩ (add_sub1 _).symm)
                      · refine x_iload dX12_line_113 rfl ?_
                        refine x_iload_n dX12_line_115 rfl rfl ?_
                        refine x_icmp_gt (tgt := 121) dX12_line_116 (by decide) (fun h116 => ?_) (fun h116 => ?_)
                        · refine x_aload_n dX12_line_121 rfl rfl ?_
                          refine xm_geta dX12_line_122 lf_X12_28 vma_8 ?_
                          refine x_aload_n dX12_line_125 rfl rfl ?_
                          refine xm_geti dX12_line_126 lf_X12_152 vmi_16 ?_
                          refine x_iload_n dX12_line_129 rfl rfl ?_
                          refine xm_iast 8 dX12_line_130 mf_8 hi hin rfl ?_
                          refine x_aload_n dX12_line_131 rfl rfl ?_
                          refine xm_geta dX12_line_132 lf_X12_31 vma_9 ?_
                          refine x_aload_n dX12_line_135 rfl rfl ?_
                          refine xm_geti dX12_line_136 lf_X12_152 vmi_16 ?_
                          refine x_iload_n dX12_line_139 rfl rfl ?_
                          refine xm_iast 9 dX12_line_140 mf_9 hi hin rfl ?_
                          refine x_aload_n dX12_line_141 rfl rfl ?_
                          refine xm_geta dX12_line_142 lf_X12_34 vma_10 ?_
                          refine x_aload_n dX12_line_145 rfl rfl ?_
                          refine xm_geti dX12_line_146 lf_X12_152 vmi_16 ?_
                          refine x_iload_n dX12_line_149 rfl rfl ?_
                          refine xm_iast 10 dX12_line_150 mf_10 hi hin rfl ?_
                          refine x_aload_n dX12_line_151 rfl rfl ?_
                          refine xm_geta dX12_line_152 lf_X12_37 vma_11 ?_
                          refine x_aload_n dX12_line_155 rfl rfl ?_
                          refine xm_geti dX12_line_156 lf_X12_152 vmi_16 ?_
                          refine x_iload dX12_line_159 rfl ?_
                          refine xm_iast 11 dX12_line_161 mf_11 hi hin rfl ?_
                          refine x_aload_n dX12_line_162 rfl rfl ?_
                          refine xm_geta dX12_line_163 lf_X12_40 vma_12 ?_
                          refine x_aload_n dX12_line_166 rfl rfl ?_
                          refine xm_geti dX12_line_167 lf_X12_152 vmi_16 ?_
                          refine x_iload dX12_line_170 rfl ?_
                          refine xm_iast 12 dX12_line_172 mf_12 hi hin rfl ?_
                          refine x_aload_n dX12_line_173 rfl rfl ?_
                          refine xm_geta dX12_line_174 lf_X12_43 vma_13 ?_
                          refine x_aload_n dX12_line_177 rfl rfl ?_
                          refine xm_geti dX12_line_178 lf_X12_152 vmi_16 ?_
                          refine x_iload dX12_line_181 rfl ?_
                          refine xm_iast 13 dX12_line_183 mf_13 hi hin rfl ?_
                          refine x_aload_n dX12_line_184 rfl rfl ?_
                          refine xm_geta dX12_line_185 lf_X12_46 vma_14 ?_
                          refine x_aload_n dX12_line_188 rfl rfl ?_
                          refine xm_geti dX12_line_189 lf_X12_152 vmi_16 ?_
                          refine x_aload_n dX12_line_192 rfl rfl ?_
                          refine xm_geti dX12_line_193 lf_X12_142 vmi_1 ?_
                          refine xm_iast 14 dX12_line_196 mf_14 hi hin rfl ?_
                          refine x_aload_n dX12_line_197 rfl rfl ?_
                          refine x_dup dX12_line_198 rfl ?_
                          refine xm_geti dX12_line_199 lf_X12_152 vmi_16 ?_
                          refine x_iconst (v := 1) dX12_line_202 (by decide) ?_
                          refine x_iadd dX12_line_203 ?_
                          refine xm_puti dX12_line_204 lp_X12_152 vmq_16 vmn_16 vmf_16 ?_
                          refine x_aload_n dX12_line_207 rfl rfl ?_
                          refine xm_geti dX12_line_208 lf_X12_152 vmi_16 ?_
                          refine x_iconst (v := 1) dX12_line_211 (by decide) ?_
                          refine x_isub dX12_line_212 ?_
                          exact x_ireturn dX12_line_213 rfl rfl (fin_t (m := mm ad) hq ⟨h12, h20, h32, h39, h51, h62, by first | exact Or.inl h70 | exact Or.inr ⟨h79, h85, h91⟩, fun z => by first | exact z.1 h110 | exact absurd h116 (Int32.not_lt.mpr z.2)⟩ (add_sub1 _).symm)
                        · refine x_iconst (v := -1) dX12_line_119 (by decide) ?_
                          exact x_ireturn dX12_line_120 rfl rfl (fin_f (m := mm ad) hq (fun z => z.2.2.2.2.2.2.2 ⟨h110, Int32.not_lt.mp h116⟩))
                    · refine x_iconst (v := -1) dX12_line_94 (by decide) ?_
                      exact x_ireturn dX12_line_95 rfl rfl (fin_f (m := mm ad) hq (fun z => by
rcases z.2.2.2.2.2.2.1 with y | y
· exact h70 y
· first | exact h79 y.1 | exact y.2.1 h85 | exact y.2.2 h91))
            · refine x_iconst (v := -1) dX12_line_65 (by decide) ?_
              exact x_ireturn dX12_line_66 rfl rfl (fin_f (m := mm ad) hq (fun z => by first | exact z.1 h12 | exact h20 z.2.1 | exact h32 z.2.2.1 | exact h39 z.2.2.2.1 | exact h51 z.2.2.2.2.1 | exact h62 z.2.2.2.2.2.1))
end MDA
