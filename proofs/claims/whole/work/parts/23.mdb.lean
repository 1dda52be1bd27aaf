/-! the model's methods, 2: happenings, words, marks, land, moods, last lines, tables, questions -/
section MDB2
variable {G : Gam} {d : Nat} {k : Nat × Nat} {ad : Nat → Nat} {σ σ0 : MS} {M : Mem} {Q : Option Value → Mem → Prop}
theorem c_X12_ruleOn {day q : Int32} (hi : adOK ad) (hc : Cnt σ) (hq : Q (some (.int (spRule σ day q (cn σ 25)))) (mm ad σ)) : CT G d (0, 0) MX12_ruleOn [.ref (ad 99), .int day, .int q] (mm ad σ) Q := by
  obtain ⟨hl1, hl2⟩ := hc.b 25 (b := 20) (by decide)
  have hbest : ∀ n, n ≤ 20 → spRule σ day q n = -1 ∨ ∃ j, j < n ∧ spRule σ day q n = nI j := by
    intro n
    induction n with
    | zero => intro _; exact Or.inl rfl
    | succ n ih =>
      intro hn
      have e : spRule σ day q (n + 1) = if σ.2 22 n ≤ q ∧ σ.2 21 n ≤ day ∧ (spRule σ day q n = -1 ∨ σ.2 21 (spRule σ day q n).toNatClampNeg ≤ σ.2 21 n) then nI n else spRule σ day q n := rfl
      rw [e]
      split
      · exact Or.inr ⟨n, by omega, rfl⟩
      · rcases ih (by omega) with h | ⟨j, h1, h2⟩
        · exact Or.inl h
        · exact Or.inr ⟨j, by omega, h2⟩
  refine CT.of rfl (Nat.le_of_ble_eq_true rfl) ?_
  refine x_iconst (v := -1) dX12_ruleOn_0 (by decide) ?_
  refine x_istore_n dX12_ruleOn_1 rfl (by decide) ?_
  refine x_iconst (v := 0) dX12_ruleOn_2 (by decide) ?_
  refine x_istore dX12_ruleOn_3 (by decide) ?_
  refine x_loc [(0, .ref (ad 99)), (1, .int day), (2, .int q), (3, .int (spRule σ day q 0)), (4, .int (nI 0))] ⟨rfl, rfl, rfl, rfl, rfl, trivial⟩ ?_
  refine loop_up (P := fun i => XJ G d (0, 0) MX12_ruleOn (mm ad σ) [(0, .ref (ad 99)), (1, .int day), (2, .int q), (3, .int (spRule σ day q i)), (4, .int (nI i))] [] 5 Q) (n := cn σ 25) ?_ ?_ 0 (Nat.zero_le _)
  · refine x_iload dX12_ruleOn_5 rfl ?_
    refine x_aload_n dX12_ruleOn_7 rfl rfl ?_
    refine xm_geti dX12_ruleOn_8 lf_X12_289 vmi_25 ?_
    refine x_icmp_ge (tgt := 66) dX12_ruleOn_11 (by decide) (fun _ => ?_) (fun z => absurd (loopT hl1) z)
    refine x_iload_n dX12_ruleOn_66 rfl rfl ?_
    exact x_ireturn dX12_ruleOn_67 rfl rfl (hq)
  · intro i hlt ih
    have hin : vp_in (nI i) 20 := vp_in_nI (by omega) (by decide)
    have hcl : (nI i).toNatClampNeg = i := nI_clamp (by omega)
    refine x_iload dX12_ruleOn_5 rfl ?_
    refine x_aload_n dX12_ruleOn_7 rfl rfl ?_
    refine xm_geti dX12_ruleOn_8 lf_X12_289 vmi_25 ?_
    refine x_icmp_ge (tgt := 66) dX12_ruleOn_11 (by decide) (fun z => absurd z (loopF hl1 hlt (by omega))) (fun _ => ?_)
    refine x_aload_n dX12_ruleOn_14 rfl rfl ?_
    refine xm_geta dX12_ruleOn_15 lf_X12_62 vma_22 ?_
    refine x_iload dX12_ruleOn_18 rfl ?_
    refine xm_iald 22 dX12_ruleOn_20 mf_22 hi hin hcl ?_
    refine x_iload_n dX12_ruleOn_21 rfl rfl ?_
    refine x_icmp_gt (tgt := 60) dX12_ruleOn_22 (by decide) (fun h22 => ?_) (fun h22 => ?_)
    · refine x_iinc (c := 1) dX12_ruleOn_60 rfl (by decide) ?_
      refine x_goto (tgt := 5) dX12_ruleOn_63 (by decide) ?_
      refine x_loc _ (?_ : lle _ _) ih
      refine ⟨rfl, rfl, rfl, ?_, ?_, trivial⟩
      · show some (Value.int _) = some (Value.int (if σ.2 22 i ≤ q ∧ σ.2 21 i ≤ day ∧ (spRule σ day q i = -1 ∨ σ.2 21 (spRule σ day q i).toNatClampNeg ≤ σ.2 21 i) then nI i else spRule σ day q i))
        clear ih hq hbest; grind
      · show some (Value.int _) = some (Value.int (nI (i + 1)))
        rw [← nI_1]
    · refine x_aload_n dX12_ruleOn_25 rfl rfl ?_
      refine xm_geta dX12_ruleOn_26 lf_X12_59 vma_21 ?_
      refine x_iload dX12_ruleOn_29 rfl ?_
      refine xm_iald 21 dX12_ruleOn_31 mf_21 hi hin hcl ?_
      refine x_iload_n dX12_ruleOn_32 rfl rfl ?_
      refine x_icmp_gt (tgt := 60) dX12_ruleOn_33 (by decide) (fun h33 => ?_) (fun h33 => ?_)
      · refine x_iinc (c := 1) dX12_ruleOn_60 rfl (by decide) ?_
        refine x_goto (tgt := 5) dX12_ruleOn_63 (by decide) ?_
        refine x_loc _ (?_ : lle _ _) ih
        refine ⟨rfl, rfl, rfl, ?_, ?_, trivial⟩
        · show some (Value.int _) = some (Value.int (if σ.2 22 i ≤ q ∧ σ.2 21 i ≤ day ∧ (spRule σ day q i = -1 ∨ σ.2 21 (spRule σ day q i).toNatClampNeg ≤ σ.2 21 i) then nI i else spRule σ day q i))
          clear ih hq hbest; grind
        · show some (Value.int _) = some (Value.int (nI (i + 1)))
          rw [← nI_1]
      · refine x_iload_n dX12_ruleOn_36 rfl rfl ?_
        refine x_iconst (v := -1) dX12_ruleOn_37 (by decide) ?_
        refine x_icmp_eq (tgt := 57) dX12_ruleOn_38 (by decide) (fun h38 => ?_) (fun h38 => ?_)
        · refine x_iload dX12_ruleOn_57 rfl ?_
          refine x_istore_n dX12_ruleOn_59 rfl (by decide) ?_
          refine x_iinc (c := 1) dX12_ruleOn_60 rfl (by decide) ?_
          refine x_goto (tgt := 5) dX12_ruleOn_63 (by decide) ?_
          refine x_loc _ (?_ : lle _ _) ih
          refine ⟨rfl, rfl, rfl, ?_, ?_, trivial⟩
          · show some (Value.int _) = some (Value.int (if σ.2 22 i ≤ q ∧ σ.2 21 i ≤ day ∧ (spRule σ day q i = -1 ∨ σ.2 21 (spRule σ day q i).toNatClampNeg ≤ σ.2 21 i) then nI i else spRule σ day q i))
            clear ih hq hbest; grind
          · show some (Value.int _) = some (Value.int (nI (i + 1)))
            rw [← nI_1]
        · have hin2 : vp_in (spRule σ day q i) 20 := by
            rcases hbest i (by omega) with h | ⟨j, h1, h2⟩
            · exact absurd h h38
            · rw [h2]; exact vp_in_nI (by omega) (by decide)
          refine x_aload_n dX12_ruleOn_41 rfl rfl ?_
          refine xm_geta dX12_ruleOn_42 lf_X12_59 vma_21 ?_
          refine x_iload dX12_ruleOn_45 rfl ?_
          refine xm_iald 21 dX12_ruleOn_47 mf_21 hi hin hcl ?_
          refine x_aload_n dX12_ruleOn_48 rfl rfl ?_
          refine xm_geta dX12_ruleOn_49 lf_X12_59 vma_21 ?_
          refine x_iload_n dX12_ruleOn_52 rfl rfl ?_
          refine xm_iald 21 dX12_ruleOn_53 mf_21 hi hin2 rfl ?_
          refine x_icmp_lt (tgt := 60) dX12_ruleOn_54 (by decide) (fun h54 => ?_) (fun h54 => ?_)
          · refine x_iinc (c := 1) dX12_ruleOn_60 rfl (by decide) ?_
            refine x_goto (tgt := 5) dX12_ruleOn_63 (by decide) ?_
            refine x_loc _ (?_ : lle _ _) ih
            refine ⟨rfl, rfl, rfl, ?_, ?_, trivial⟩
            · show some (Value.int _) = some (Value.int (if σ.2 22 i ≤ q ∧ σ.2 21 i ≤ day ∧ (spRule σ day q i = -1 ∨ σ.2 21 (spRule σ day q i).toNatClampNeg ≤ σ.2 21 i) then nI i else spRule σ day q i))
              clear ih hq hbest; grind
            · show some (Value.int _) = some (Value.int (nI (i + 1)))
              rw [← nI_1]
          · refine x_iload dX12_ruleOn_57 rfl ?_
            refine x_istore_n dX12_ruleOn_59 rfl (by decide) ?_
            refine x_iinc (c := 1) dX12_ruleOn_60 rfl (by decide) ?_
            refine x_goto (tgt := 5) dX12_ruleOn_63 (by decide) ?_
            refine x_loc _ (?_ : lle _ _) ih
            refine ⟨rfl, rfl, rfl, ?_, ?_, trivial⟩
            · show some (Value.int _) = some (Value.int (if σ.2 22 i ≤ q ∧ σ.2 21 i ≤ day ∧ (spRule σ day q i = -1 ∨ σ.2 21 (spRule σ day q i).toNatClampNeg ≤ σ.2 21 i) then nI i else spRule σ day q i))
              clear ih hq hbest; grind
            · show some (Value.int _) = some (Value.int (nI (i + 1)))
              rw [← nI_1]
theorem c_X12_force {day q : Int32} (hi : adOK ad) (h0 : seti σ 0 0 = σ0) (hc : Cnt σ0) (hq : Q (some (.int (aForce σ0 day q))) (mm ad σ0)) : CT G (d + 2) (0, 0) MX12_force [.ref (ad 99), .int day, .int q] (mm ad σ) Q := by
  refine CT.of rfl (Nat.le_of_ble_eq_true rfl) ?_
  refine x_aload_n dX12_force_0 rfl rfl ?_
  refine x_iconst (v := 0) dX12_force_1 (by decide) ?_
  refine xm_puti dX12_force_2 lp_X12_138 vmq_0 vmn_0 vmf_0 ?_
  rw [h0]
  refine x_iload_n dX12_force_5 rfl rfl ?_
  refine x_cS1 dX12_force_6 ls_X12_175 rfl  (c_X12_isDay ?_)
  refine x_if_eq_b (tgt := 29) dX12_force_9 (by decide) (fun h9 => ?_) (fun h9 => ?_)
  · refine x_iconst (v := -1) dX12_force_29 (by decide) ?_
    exact x_ireturn dX12_force_30 rfl rfl (by first | exact fan_t hq ⟨h9, h17⟩ | exact fan_f hq (fun z => h9 z.1) | exact fan_f hq (fun z => h17 z.2))
  · refine x_aload_n dX12_force_12 rfl rfl ?_
    refine x_iload_n dX12_force_13 rfl rfl ?_
    refine x_cV1 dX12_force_14 lv_X12_159 mm_obj rfl rfl rfl  (c_X12_isKnown ?_)
    refine x_if_eq_b (tgt := 29) dX12_force_17 (by decide) (fun h17 => ?_) (fun h17 => ?_)
    · refine x_iconst (v := -1) dX12_force_29 (by decide) ?_
      exact x_ireturn dX12_force_30 rfl rfl (by first | exact fan_t hq ⟨h9, h17⟩ | exact fan_f hq (fun z => h9 z.1) | exact fan_f hq (fun z => h17 z.2))
    · refine x_aload_n dX12_force_20 rfl rfl ?_
      refine x_iload_n dX12_force_21 rfl rfl ?_
      refine x_iload_n dX12_force_22 rfl rfl ?_
      refine x_cV2 dX12_force_23 lv_X12_292 mm_obj rfl rfl rfl  (c_X12_ruleOn hi hc ?_)
      refine x_goto (tgt := 30) dX12_force_26 (by decide) ?_
      exact x_ireturn dX12_force_30 rfl rfl (by first | exact fan_t hq ⟨h9, h17⟩ | exact fan_f hq (fun z => h9 z.1) | exact fan_f hq (fun z => h17 z.2))
theorem c_X12_happen {a b c z : Int32} (hi : adOK ad) (h0 : seti σ 0 0 = σ0) (hc : Cnt σ0) (hq : Q (some (.int (aHappen σ0 a b c))) (mm ad (nHappen σ0 a b c z))) : CT G (d + 2) (0, 0) MX12_happen [.ref (ad 99), .int a, .int b, .int c, .int z] (mm ad σ) Q := by
  obtain ⟨hl1, hl2⟩ := hc.b 44 (b := 100) (by decide)
  refine CT.of rfl (Nat.le_of_ble_eq_true rfl) ?_
  refine x_aload_n dX12_happen_0 rfl rfl ?_
  refine x_iconst (v := 0) dX12_happen_1 (by decide) ?_
  refine xm_puti dX12_happen_2 lp_X12_138 vmq_0 vmn_0 vmf_0 ?_
  rw [h0]
  refine x_aload_n dX12_happen_5 rfl rfl ?_
  refine xm_geti dX12_happen_6 lf_X12_329 vmi_44 ?_
  refine x_bipush (v := 100) dX12_happen_9 (by decide) ?_
  refine x_icmp_eq (tgt := 38) dX12_happen_11 (by decide) (fun h11 => ?_) (fun h11 => ?_)
  · refine x_iconst (v := 0) dX12_happen_38 (by decide) ?_
    exact x_ireturn dX12_happen_39 rfl rfl (fbn_f (m := mm ad) hq (fun z => by first | exact z.1 h11 | exact h21 z.2.1 | exact h28 z.2.2.1 | exact h35 z.2.2.2))
  · refine x_iload_n dX12_happen_14 rfl rfl ?_
    refine x_iconst (v := 0) dX12_happen_15 (by decide) ?_
    refine x_bipush (v := 7) dX12_happen_16 (by decide) ?_
    refine x_cS3 dX12_happen_18 ls_X12_145 rfl  (c_X12_isIn ?_)
    refine x_if_eq_b (tgt := 38) dX12_happen_21 (by decide) (fun h21 => ?_) (fun h21 => ?_)
    · refine x_iconst (v := 0) dX12_happen_38 (by decide) ?_
      exact x_ireturn dX12_happen_39 rfl rfl (fbn_f (m := mm ad) hq (fun z => by first | exact z.1 h11 | exact h21 z.2.1 | exact h28 z.2.2.1 | exact h35 z.2.2.2))
    · refine x_iload_n dX12_happen_24 rfl rfl ?_
      refine x_cS1 dX12_happen_25 ls_X12_175 rfl  (c_X12_isDay ?_)
      refine x_if_eq_b (tgt := 38) dX12_happen_28 (by decide) (fun h28 => ?_) (fun h28 => ?_)
      · refine x_iconst (v := 0) dX12_happen_38 (by decide) ?_
        exact x_ireturn dX12_happen_39 rfl rfl (fbn_f (m := mm ad) hq (fun z => by first | exact z.1 h11 | exact h21 z.2.1 | exact h28 z.2.2.1 | exact h35 z.2.2.2))
      · refine x_iload_n dX12_happen_31 rfl rfl ?_
        refine x_cS1 dX12_happen_32 ls_X12_168 rfl  (c_X12_isSort ?_)
        refine x_if_ne_b (tgt := 40) dX12_happen_35 (by decide) (fun h35 => ?_) (fun h35 => ?_)
        · have hin := in_cnt hl1 hl2 (v := 100) rfl h11 (by decide)
          refine x_aload_n dX12_happen_40 rfl rfl ?_
          refine xm_geta dX12_happen_41 lf_X12_74 vma_38 ?_
          refine x_aload_n dX12_happen_44 rfl rfl ?_
          refine xm_geti dX12_happen_45 lf_X12_329 vmi_44 ?_
          refine x_iload_n dX12_happen_48 rfl rfl ?_
          refine xm_iast 38 dX12_happen_49 mf_38 hi hin rfl ?_
          refine x_aload_n dX12_happen_50 rfl rfl ?_
          refine xm_geta dX12_happen_51 lf_X12_77 vma_39 ?_
          refine x_aload_n dX12_happen_54 rfl rfl ?_
          refine xm_geti dX12_happen_55 lf_X12_329 vmi_44 ?_
          refine x_iload_n dX12_happen_58 rfl rfl ?_
          refine xm_iast 39 dX12_happen_59 mf_39 hi hin rfl ?_
          refine x_aload_n dX12_happen_60 rfl rfl ?_
          refine xm_geta dX12_happen_61 lf_X12_80 vma_40 ?_
          refine x_aload_n dX12_happen_64 rfl rfl ?_
          refine xm_geti dX12_happen_65 lf_X12_329 vmi_44 ?_
          refine x_iload_n dX12_happen_68 rfl rfl ?_
          refine xm_iast 40 dX12_happen_69 mf_40 hi hin rfl ?_
          refine x_aload_n dX12_happen_70 rfl rfl ?_
          refine xm_geta dX12_happen_71 lf_X12_86 vma_42 ?_
          refine x_aload_n dX12_happen_74 rfl rfl ?_
          refine xm_geti dX12_happen_75 lf_X12_329 vmi_44 ?_
          refine x_iload dX12_happen_78 rfl ?_
          refine xm_zast 42 dX12_happen_80 mf_42 hi hin rfl ?_
          refine x_aload_n dX12_happen_81 rfl rfl ?_
          refine xm_geta dX12_happen_82 lf_X12_83 vma_41 ?_
          refine x_aload_n dX12_happen_85 rfl rfl ?_
          refine xm_geti dX12_happen_86 lf_X12_329 vmi_44 ?_
          refine x_aload_n dX12_happen_89 rfl rfl ?_
          refine xm_geti dX12_happen_90 lf_X12_142 vmi_1 ?_
          refine xm_iast 41 dX12_happen_93 mf_41 hi hin rfl ?_
          refine x_aload_n dX12_happen_94 rfl rfl ?_
          refine x_dup dX12_happen_95 rfl ?_
          refine xm_geti dX12_happen_96 lf_X12_329 vmi_44 ?_
          refine x_iconst (v := 1) dX12_happen_99 (by decide) ?_
          refine x_iadd dX12_happen_100 ?_
          refine xm_puti dX12_happen_101 lp_X12_329 vmq_44 vmn_44 vmf_44 ?_
          refine x_iconst (v := 1) dX12_happen_104 (by decide) ?_
          exact x_ireturn dX12_happen_105 rfl rfl (fbn_t (m := mm ad) hq ⟨h11, h21, h28, h35⟩)
        · refine x_iconst (v := 0) dX12_happen_38 (by decide) ?_
          exact x_ireturn dX12_happen_39 rfl rfl (fbn_f (m := mm ad) hq (fun z => by first | exact z.1 h11 | exact h21 z.2.1 | exact h28 z.2.2.1 | exact h35 z.2.2.2))
/-- what a line's person is -/
def LinP (σ : MS) : Prop := ∀ l, l < cn σ 16 → 0 ≤ σ.2 8 l ∧ σ.2 8 l < σ.1 15
theorem c_X12_truth {l q : Int32} (hi : adOK ad) (h0 : seti σ 0 0 = σ0) (hc : Cnt σ0) (hp : LinP σ0) (hq : Q (some (.int (aTruth σ0 l q))) (mm ad σ0)) : CT G (d + 3) (0, 0) MX12_truth [.ref (ad 99), .int l, .int q] (mm ad σ) Q := by
  obtain ⟨hl1, hl2⟩ := hc.b 16 (b := 200) (by decide)
  obtain ⟨hp1, hp2⟩ := hc.b 15 (b := 24) (by decide)
  obtain ⟨hh1, hh2⟩ := hc.b 44 (b := 100) (by decide)
  refine CT.of rfl (Nat.le_of_ble_eq_true rfl) ?_
  refine x_aload_n dX12_truth_0 rfl rfl ?_
  refine x_iconst (v := 0) dX12_truth_1 (by decide) ?_
  refine xm_puti dX12_truth_2 lp_X12_138 vmq_0 vmn_0 vmf_0 ?_
  rw [h0]
  refine x_aload_n dX12_truth_5 rfl rfl ?_
  refine x_iload_n dX12_truth_6 rfl rfl ?_
  refine x_iload_n dX12_truth_7 rfl rfl ?_
  refine x_cV2 dX12_truth_8 lv_X12_305 mm_obj rfl rfl rfl  (c_X12_isLineBy hi hc ?_)
  refine x_if_ne_b (tgt := 16) dX12_truth_11 (by decide) (fun h11 => ?_) (fun h11 => ?_)
  · obtain ⟨j, hj, rfl⟩ := of_lt h11.1.1 h11.1.2 hl1 (by omega)
    have hjc : (nI j).toNatClampNeg = j := nI_clamp (by omega)
    have hq := fan_t hq h11
    rw [hjc] at hq
    have hinj : vp_in (nI j) 200 := vp_in_nI (by omega) (by decide)
    have hinp : vp_in (σ0.2 8 j) 24 := in_lt (hp j hj).1 (hp j hj).2 hp1 hp2 (by decide)
    refine x_iconst (v := 2) dX12_truth_16 (by decide) ?_
    refine x_istore_n dX12_truth_17 rfl (by decide) ?_
    refine x_iconst (v := 0) dX12_truth_18 (by decide) ?_
    refine x_istore dX12_truth_19 (by decide) ?_
    refine x_loc [(0, .ref (ad 99)), (1, .int (nI j)), (2, .int q), (3, .int (spTruth σ0 j q 0)), (4, .int (nI 0))] ⟨rfl, rfl, rfl, rfl, rfl, trivial⟩ ?_
    refine loop_up (P := fun i => XJ G (d + 3) (0, 0) MX12_truth (mm ad σ0) [(0, .ref (ad 99)), (1, .int (nI j)), (2, .int q), (3, .int (spTruth σ0 j q i)), (4, .int (nI i))] [] 21 Q) (n := cn σ0 44) ?_ ?_ 0 (Nat.zero_le _)
    · refine x_iload dX12_truth_21 rfl ?_
      refine x_aload_n dX12_truth_23 rfl rfl ?_
      refine xm_geti dX12_truth_24 lf_X12_329 vmi_44 ?_
      refine x_icmp_ge (tgt := 116) dX12_truth_27 (by decide) (fun _ => ?_) (fun z => absurd (loopT hh1) z)
      refine x_iload_n dX12_truth_116 rfl rfl ?_
      exact x_ireturn dX12_truth_117 rfl rfl (hq)
    · intro i hlt ih
      have hin : vp_in (nI i) 100 := vp_in_nI (by omega) (by decide)
      have hcl : (nI i).toNatClampNeg = i := nI_clamp (by omega)
      refine x_iload dX12_truth_21 rfl ?_
      refine x_aload_n dX12_truth_23 rfl rfl ?_
      refine xm_geti dX12_truth_24 lf_X12_329 vmi_44 ?_
      refine x_icmp_ge (tgt := 116) dX12_truth_27 (by decide) (fun z => absurd z (loopF hh1 hlt (by omega))) (fun _ => ?_)
      refine x_aload_n dX12_truth_30 rfl rfl ?_
      refine xm_geta dX12_truth_31 lf_X12_83 vma_41 ?_
      refine x_iload dX12_truth_34 rfl ?_
      refine xm_iald 41 dX12_truth_36 mf_41 hi hin hcl ?_
      refine x_iload_n dX12_truth_37 rfl rfl ?_
      refine x_icmp_gt (tgt := 110) dX12_truth_38 (by decide) (fun h38 => ?_) (fun h38 => ?_)
      · refine x_iinc (c := 1) dX12_truth_110 rfl (by decide) ?_
        refine x_goto (tgt := 21) dX12_truth_113 (by decide) ?_
        refine x_loc _ (?_ : lle _ _) ih
        refine ⟨rfl, rfl, rfl, ?_, ?_, trivial⟩
        · show some (Value.int _) = some (Value.int (if σ0.2 41 i ≤ q ∧ σ0.2 38 i = σ0.2 2 (σ0.2 8 j).toNatClampNeg ∧ σ0.2 39 i = σ0.2 9 j ∧ σ0.2 40 i = σ0.2 10 j then (if σ0.2 42 i = 0 then 0 else 1) else spTruth σ0 j q i))
          clear ih hq; grind
        · show some (Value.int _) = some (Value.int (nI (i + 1)))
          rw [← nI_1]
      · refine x_aload_n dX12_truth_41 rfl rfl ?_
        refine xm_geta dX12_truth_42 lf_X12_74 vma_38 ?_
        refine x_iload dX12_truth_45 rfl ?_
        refine xm_iald 38 dX12_truth_47 mf_38 hi hin hcl ?_
        refine x_aload_n dX12_truth_48 rfl rfl ?_
        refine xm_geta dX12_truth_49 lf_X12_9 vma_2 ?_
        refine x_aload_n dX12_truth_52 rfl rfl ?_
        refine xm_geta dX12_truth_53 lf_X12_28 vma_8 ?_
        refine x_iload_n dX12_truth_56 rfl rfl ?_
        refine xm_iald 8 dX12_truth_57 mf_8 hi hinj hjc ?_
        refine xm_iald 2 dX12_truth_58 mf_2 hi hinp rfl ?_
        refine x_icmp_ne (tgt := 110) dX12_truth_59 (by decide) (fun h59 => ?_) (fun h59 => ?_)
        · refine x_iinc (c := 1) dX12_truth_110 rfl (by decide) ?_
          refine x_goto (tgt := 21) dX12_truth_113 (by decide) ?_
          refine x_loc _ (?_ : lle _ _) ih
          refine ⟨rfl, rfl, rfl, ?_, ?_, trivial⟩
          · show some (Value.int _) = some (Value.int (if σ0.2 41 i ≤ q ∧ σ0.2 38 i = σ0.2 2 (σ0.2 8 j).toNatClampNeg ∧ σ0.2 39 i = σ0.2 9 j ∧ σ0.2 40 i = σ0.2 10 j then (if σ0.2 42 i = 0 then 0 else 1) else spTruth σ0 j q i))
            clear ih hq; grind
          · show some (Value.int _) = some (Value.int (nI (i + 1)))
            rw [← nI_1]
        · refine x_aload_n dX12_truth_62 rfl rfl ?_
          refine xm_geta dX12_truth_63 lf_X12_77 vma_39 ?_
          refine x_iload dX12_truth_66 rfl ?_
          refine xm_iald 39 dX12_truth_68 mf_39 hi hin hcl ?_
          refine x_aload_n dX12_truth_69 rfl rfl ?_
          refine xm_geta dX12_truth_70 lf_X12_31 vma_9 ?_
          refine x_iload_n dX12_truth_73 rfl rfl ?_
          refine xm_iald 9 dX12_truth_74 mf_9 hi hinj hjc ?_
          refine x_icmp_ne (tgt := 110) dX12_truth_75 (by decide) (fun h75 => ?_) (fun h75 => ?_)
          · refine x_iinc (c := 1) dX12_truth_110 rfl (by decide) ?_
            refine x_goto (tgt := 21) dX12_truth_113 (by decide) ?_
            refine x_loc _ (?_ : lle _ _) ih
            refine ⟨rfl, rfl, rfl, ?_, ?_, trivial⟩
            · show some (Value.int _) = some (Value.int (if σ0.2 41 i ≤ q ∧ σ0.2 38 i = σ0.2 2 (σ0.2 8 j).toNatClampNeg ∧ σ0.2 39 i = σ0.2 9 j ∧ σ0.2 40 i = σ0.2 10 j then (if σ0.2 42 i = 0 then 0 else 1) else spTruth σ0 j q i))
              clear ih hq; grind
            · show some (Value.int _) = some (Value.int (nI (i + 1)))
              rw [← nI_1]
          · refine x_aload_n dX12_truth_78 rfl rfl ?_
            refine xm_geta dX12_truth_79 lf_X12_80 vma_40 ?_
            refine x_iload dX12_truth_82 rfl ?_
            refine xm_iald 40 dX12_truth_84 mf_40 hi hin hcl ?_
            refine x_aload_n dX12_truth_85 rfl rfl ?_
            refine xm_geta dX12_truth_86 lf_X12_34 vma_10 ?_
            refine x_iload_n dX12_truth_89 rfl rfl ?_
            refine xm_iald 10 dX12_truth_90 mf_10 hi hinj hjc ?_
            refine x_icmp_ne (tgt := 110) dX12_truth_91 (by decide) (fun h91 => ?_) (fun h91 => ?_)
            · refine x_iinc (c := 1) dX12_truth_110 rfl (by decide) ?_
              refine x_goto (tgt := 21) dX12_truth_113 (by decide) ?_
              refine x_loc _ (?_ : lle _ _) ih
              refine ⟨rfl, rfl, rfl, ?_, ?_, trivial⟩
              · show some (Value.int _) = some (Value.int (if σ0.2 41 i ≤ q ∧ σ0.2 38 i = σ0.2 2 (σ0.2 8 j).toNatClampNeg ∧ σ0.2 39 i = σ0.2 9 j ∧ σ0.2 40 i = σ0.2 10 j then (if σ0.2 42 i = 0 then 0 else 1) else spTruth σ0 j q i))
                clear ih hq; grind
              · show some (Value.int _) = some (Value.int (nI (i + 1)))
                rw [← nI_1]
            · refine x_aload_n dX12_truth_94 rfl rfl ?_
              refine xm_geta dX12_truth_95 lf_X12_86 vma_42 ?_
              refine x_iload dX12_truth_98 rfl ?_
              refine xm_zald 42 dX12_truth_100 mf_42 hi hin hcl ?_
              refine x_if_eq (tgt := 108) dX12_truth_101 (by decide) (fun h101 => ?_) (fun h101 => ?_)
              · refine x_iconst (v := 0) dX12_truth_108 (by decide) ?_
                refine x_istore_n dX12_truth_109 rfl (by decide) ?_
                refine x_iinc (c := 1) dX12_truth_110 rfl (by decide) ?_
                refine x_goto (tgt := 21) dX12_truth_113 (by decide) ?_
                refine x_loc _ (?_ : lle _ _) ih
                refine ⟨rfl, rfl, rfl, ?_, ?_, trivial⟩
                · show some (Value.int _) = some (Value.int (if σ0.2 41 i ≤ q ∧ σ0.2 38 i = σ0.2 2 (σ0.2 8 j).toNatClampNeg ∧ σ0.2 39 i = σ0.2 9 j ∧ σ0.2 40 i = σ0.2 10 j then (if σ0.2 42 i = 0 then 0 else 1) else spTruth σ0 j q i))
                  clear ih hq; grind
                · show some (Value.int _) = some (Value.int (nI (i + 1)))
                  rw [← nI_1]
              · refine x_iconst (v := 1) dX12_truth_104 (by decide) ?_
                refine x_goto (tgt := 109) dX12_truth_105 (by decide) ?_
                refine x_istore_n dX12_truth_109 rfl (by decide) ?_
                refine x_iinc (c := 1) dX12_truth_110 rfl (by decide) ?_
                refine x_goto (tgt := 21) dX12_truth_113 (by decide) ?_
                refine x_loc _ (?_ : lle _ _) ih
                refine ⟨rfl, rfl, rfl, ?_, ?_, trivial⟩
                · show some (Value.int _) = some (Value.int (if σ0.2 41 i ≤ q ∧ σ0.2 38 i = σ0.2 2 (σ0.2 8 j).toNatClampNeg ∧ σ0.2 39 i = σ0.2 9 j ∧ σ0.2 40 i = σ0.2 10 j then (if σ0.2 42 i = 0 then 0 else 1) else spTruth σ0 j q i))
                  clear ih hq; grind
                · show some (Value.int _) = some (Value.int (nI (i + 1)))
                  rw [← nI_1]
  · refine x_iconst (v := -1) dX12_truth_14 (by decide) ?_
    exact x_ireturn dX12_truth_15 rfl rfl (fan_f hq h11)
theorem spWord_cases {σ : MS} {p say q : Int32} : ∀ n, spWord σ p say q n = -1 ∨ ∃ j, j < n ∧ spWord σ p say q n = nI j := by
  intro n
  induction n with
  | zero => exact Or.inl rfl
  | succ n ih =>
    have e : spWord σ p say q (n + 1) = if σ.2 8 n = p ∧ σ.2 12 n = say ∧ σ.2 14 n ≤ q ∧ (spWord σ p say q n = -1 ∨ σ.2 9 n < σ.2 9 (spWord σ p say q n).toNatClampNeg) then nI n else spWord σ p say q n := rfl
    rw [e]
    split
    · exact Or.inr ⟨n, by omega, rfl⟩
    · rcases ih with h | ⟨j, h1, h2⟩
      · exact Or.inl h
      · exact Or.inr ⟨j, by omega, h2⟩
theorem c_X12_wordOf {p say q : Int32} (hi : adOK ad) (hc : Cnt σ) (hq : Q (some (.int (spWord σ p say q (cn σ 16)))) (mm ad σ)) : CT G d (0, 0) MX12_wordOf [.ref (ad 99), .int p, .int say, .int q] (mm ad σ) Q := by
  obtain ⟨hl1, hl2⟩ := hc.b 16 (b := 200) (by decide)
  refine CT.of rfl (Nat.le_of_ble_eq_true rfl) ?_
  refine x_iconst (v := -1) dX12_wordOf_0 (by decide) ?_
  refine x_istore dX12_wordOf_1 (by decide) ?_
  refine x_iconst (v := 0) dX12_wordOf_3 (by decide) ?_
  refine x_istore dX12_wordOf_4 (by decide) ?_
  refine x_loc [(0, .ref (ad 99)), (1, .int p), (2, .int say), (3, .int q), (4, .int (spWord σ p say q 0)), (5, .int (nI 0))] ⟨rfl, rfl, rfl, rfl, rfl, rfl, trivial⟩ ?_
  refine loop_up (P := fun i => XJ G d (0, 0) MX12_wordOf (mm ad σ) [(0, .ref (ad 99)), (1, .int p), (2, .int say), (3, .int q), (4, .int (spWord σ p say q i)), (5, .int (nI i))] [] 6 Q) (n := cn σ 16) ?_ ?_ 0 (Nat.zero_le _)
  · refine x_iload dX12_wordOf_6 rfl ?_
    refine x_aload_n dX12_wordOf_8 rfl rfl ?_
    refine xm_geti dX12_wordOf_9 lf_X12_152 vmi_16 ?_
    refine x_icmp_ge (tgt := 81) dX12_wordOf_12 (by decide) (fun _ => ?_) (fun z => absurd (loopT hl1) z)
    refine x_iload dX12_wordOf_81 rfl ?_
    exact x_ireturn dX12_wordOf_83 rfl rfl (hq)
  · intro i hlt ih
    have hin : vp_in (nI i) 200 := vp_in_nI (by omega) (by decide)
    have hcl : (nI i).toNatClampNeg = i := nI_clamp (by omega)
    refine x_iload dX12_wordOf_6 rfl ?_
    refine x_aload_n dX12_wordOf_8 rfl rfl ?_
    refine xm_geti dX12_wordOf_9 lf_X12_152 vmi_16 ?_
    refine x_icmp_ge (tgt := 81) dX12_wordOf_12 (by decide) (fun z => absurd z (loopF hl1 hlt (by omega))) (fun _ => ?_)
    refine x_aload_n dX12_wordOf_15 rfl rfl ?_
    refine xm_geta dX12_wordOf_16 lf_X12_28 vma_8 ?_
    refine x_iload dX12_wordOf_19 rfl ?_
    refine xm_iald 8 dX12_wordOf_21 mf_8 hi hin hcl ?_
    refine x_iload_n dX12_wordOf_22 rfl rfl ?_
    refine x_icmp_ne (tgt := 75) dX12_wordOf_23 (by decide) (fun h23 => ?_) (fun h23 => ?_)
    · refine x_iinc (c := 1) dX12_wordOf_75 rfl (by decide) ?_
      refine x_goto (tgt := 6) dX12_wordOf_78 (by decide) ?_
      refine x_loc _ (?_ : lle _ _) ih
      refine ⟨rfl, rfl, rfl, rfl, ?_, ?_, trivial⟩
      · show some (Value.int _) = some (Value.int (if σ.2 8 i = p ∧ σ.2 12 i = say ∧ σ.2 14 i ≤ q ∧ (spWord σ p say q i = -1 ∨ σ.2 9 i < σ.2 9 (spWord σ p say q i).toNatClampNeg) then nI i else spWord σ p say q i))
        clear ih hq; grind
      · show some (Value.int _) = some (Value.int (nI (i + 1)))
        rw [← nI_1]
    · refine x_aload_n dX12_wordOf_26 rfl rfl ?_
      refine xm_geta dX12_wordOf_27 lf_X12_40 vma_12 ?_
      refine x_iload dX12_wordOf_30 rfl ?_
      refine xm_iald 12 dX12_wordOf_32 mf_12 hi hin hcl ?_
      refine x_iload_n dX12_wordOf_33 rfl rfl ?_
      refine x_icmp_ne (tgt := 75) dX12_wordOf_34 (by decide) (fun h34 => ?_) (fun h34 => ?_)
      · refine x_iinc (c := 1) dX12_wordOf_75 rfl (by decide) ?_
        refine x_goto (tgt := 6) dX12_wordOf_78 (by decide) ?_
        refine x_loc _ (?_ : lle _ _) ih
        refine ⟨rfl, rfl, rfl, rfl, ?_, ?_, trivial⟩
        · show some (Value.int _) = some (Value.int (if σ.2 8 i = p ∧ σ.2 12 i = say ∧ σ.2 14 i ≤ q ∧ (spWord σ p say q i = -1 ∨ σ.2 9 i < σ.2 9 (spWord σ p say q i).toNatClampNeg) then nI i else spWord σ p say q i))
          clear ih hq; grind
        · show some (Value.int _) = some (Value.int (nI (i + 1)))
          rw [← nI_1]
      · refine x_aload_n dX12_wordOf_37 rfl rfl ?_
        refine xm_geta dX12_wordOf_38 lf_X12_46 vma_14 ?_
        refine x_iload dX12_wordOf_41 rfl ?_
        refine xm_iald 14 dX12_wordOf_43 mf_14 hi hin hcl ?_
        refine x_iload_n dX12_wordOf_44 rfl rfl ?_
        refine x_icmp_gt (tgt := 75) dX12_wordOf_45 (by decide) (fun h45 => ?_) (fun h45 => ?_)
        · refine x_iinc (c := 1) dX12_wordOf_75 rfl (by decide) ?_
          refine x_goto (tgt := 6) dX12_wordOf_78 (by decide) ?_
          refine x_loc _ (?_ : lle _ _) ih
          refine ⟨rfl, rfl, rfl, rfl, ?_, ?_, trivial⟩
          · show some (Value.int _) = some (Value.int (if σ.2 8 i = p ∧ σ.2 12 i = say ∧ σ.2 14 i ≤ q ∧ (spWord σ p say q i = -1 ∨ σ.2 9 i < σ.2 9 (spWord σ p say q i).toNatClampNeg) then nI i else spWord σ p say q i))
            clear ih hq; grind
          · show some (Value.int _) = some (Value.int (nI (i + 1)))
            rw [← nI_1]
        · refine x_iload dX12_wordOf_48 rfl ?_
          refine x_iconst (v := -1) dX12_wordOf_50 (by decide) ?_
          refine x_icmp_eq (tgt := 71) dX12_wordOf_51 (by decide) (fun h51 => ?_) (fun h51 => ?_)
          · refine x_iload dX12_wordOf_71 rfl ?_
            refine x_istore dX12_wordOf_73 (by decide) ?_
            refine x_iinc (c := 1) dX12_wordOf_75 rfl (by decide) ?_
            refine x_goto (tgt := 6) dX12_wordOf_78 (by decide) ?_
            refine x_loc _ (?_ : lle _ _) ih
            refine ⟨rfl, rfl, rfl, rfl, ?_, ?_, trivial⟩
            · show some (Value.int _) = some (Value.int (if σ.2 8 i = p ∧ σ.2 12 i = say ∧ σ.2 14 i ≤ q ∧ (spWord σ p say q i = -1 ∨ σ.2 9 i < σ.2 9 (spWord σ p say q i).toNatClampNeg) then nI i else spWord σ p say q i))
              clear ih hq; grind
            · show some (Value.int _) = some (Value.int (nI (i + 1)))
              rw [← nI_1]
          · have hin2 : vp_in (spWord σ p say q i) 200 := by
              rcases spWord_cases (σ := σ) (p := p) (say := say) (q := q) i with h | ⟨j, h1, h2⟩
              · exact absurd h h51
              · rw [h2]; exact vp_in_nI (by omega) (by decide)
            refine x_aload_n dX12_wordOf_54 rfl rfl ?_
            refine xm_geta dX12_wordOf_55 lf_X12_31 vma_9 ?_
            refine x_iload dX12_wordOf_58 rfl ?_
            refine xm_iald 9 dX12_wordOf_60 mf_9 hi hin hcl ?_
            refine x_aload_n dX12_wordOf_61 rfl rfl ?_
            refine xm_geta dX12_wordOf_62 lf_X12_31 vma_9 ?_
            refine x_iload dX12_wordOf_65 rfl ?_
            refine xm_iald 9 dX12_wordOf_67 mf_9 hi hin2 rfl ?_
            refine x_icmp_ge (tgt := 75) dX12_wordOf_68 (by decide) (fun h68 => ?_) (fun h68 => ?_)
            · refine x_iinc (c := 1) dX12_wordOf_75 rfl (by decide) ?_
              refine x_goto (tgt := 6) dX12_wordOf_78 (by decide) ?_
              refine x_loc _ (?_ : lle _ _) ih
              refine ⟨rfl, rfl, rfl, rfl, ?_, ?_, trivial⟩
              · show some (Value.int _) = some (Value.int (if σ.2 8 i = p ∧ σ.2 12 i = say ∧ σ.2 14 i ≤ q ∧ (spWord σ p say q i = -1 ∨ σ.2 9 i < σ.2 9 (spWord σ p say q i).toNatClampNeg) then nI i else spWord σ p say q i))
                clear ih hq; grind
              · show some (Value.int _) = some (Value.int (nI (i + 1)))
                rw [← nI_1]
            · refine x_iload dX12_wordOf_71 rfl ?_
              refine x_istore dX12_wordOf_73 (by decide) ?_
              refine x_iinc (c := 1) dX12_wordOf_75 rfl (by decide) ?_
              refine x_goto (tgt := 6) dX12_wordOf_78 (by decide) ?_
              refine x_loc _ (?_ : lle _ _) ih
              refine ⟨rfl, rfl, rfl, rfl, ?_, ?_, trivial⟩
              · show some (Value.int _) = some (Value.int (if σ.2 8 i = p ∧ σ.2 12 i = say ∧ σ.2 14 i ≤ q ∧ (spWord σ p say q i = -1 ∨ σ.2 9 i < σ.2 9 (spWord σ p say q i).toNatClampNeg) then nI i else spWord σ p say q i))
                clear ih hq; grind
              · show some (Value.int _) = some (Value.int (nI (i + 1)))
                rw [← nI_1]
theorem c_X12_bearers {say q : Int32} (hi : adOK ad) (h0 : seti σ 0 0 = σ0) (hc : Cnt σ0) (hq : Q (some (.int (aBear σ0 say q))) (mm ad σ0)) : CT G (d + 2) (0, 0) MX12_bearers [.ref (ad 99), .int say, .int q] (mm ad σ) Q := by
  obtain ⟨hp1, hp2⟩ := hc.b 15 (b := 24) (by decide)
  refine CT.of rfl (Nat.le_of_ble_eq_true rfl) ?_
  refine x_aload_n dX12_bearers_0 rfl rfl ?_
  refine x_iconst (v := 0) dX12_bearers_1 (by decide) ?_
  refine xm_puti dX12_bearers_2 lp_X12_138 vmq_0 vmn_0 vmf_0 ?_
  rw [h0]
  refine x_iload_n dX12_bearers_5 rfl rfl ?_
  refine x_iconst (v := 0) dX12_bearers_6 (by decide) ?_
  refine x_bipush (v := 29) dX12_bearers_7 (by decide) ?_
  refine x_cS3 dX12_bearers_9 ls_X12_145 rfl  (c_X12_isIn ?_)
  refine x_if_eq_b (tgt := 23) dX12_bearers_12 (by decide) (fun h12 => ?_) (fun h12 => ?_)
  · refine x_iconst (v := -1) dX12_bearers_23 (by decide) ?_
    exact x_ireturn dX12_bearers_24 rfl rfl (fan_f hq (fun z => by first | exact h12 z.1 | exact h20 z.2))
  · refine x_aload_n dX12_bearers_15 rfl rfl ?_
    refine x_iload_n dX12_bearers_16 rfl rfl ?_
    refine x_cV1 dX12_bearers_17 lv_X12_159 mm_obj rfl rfl rfl  (c_X12_isKnown ?_)
    refine x_if_ne_b (tgt := 25) dX12_bearers_20 (by decide) (fun h20 => ?_) (fun h20 => ?_)
    · have hq := fan_t hq ⟨h12, h20⟩
      refine x_iconst (v := 0) dX12_bearers_25 (by decide) ?_
      refine x_istore_n dX12_bearers_26 rfl (by decide) ?_
      refine x_iconst (v := 0) dX12_bearers_27 (by decide) ?_
      refine x_istore dX12_bearers_28 (by decide) ?_
      refine x_loc [(0, .ref (ad 99)), (1, .int say), (2, .int q), (3, .int (spBear σ0 say q 0)), (4, .int (nI 0))] ⟨rfl, rfl, rfl, rfl, rfl, trivial⟩ ?_
      refine loop_up (P := fun i => XJ G (d + 2) (0, 0) MX12_bearers (mm ad σ0) [(0, .ref (ad 99)), (1, .int say), (2, .int q), (3, .int (spBear σ0 say q i)), (4, .int (nI i))] [] 30 Q) (n := cn σ0 15) ?_ ?_ 0 (Nat.zero_le _)
      · refine x_iload dX12_bearers_30 rfl ?_
        refine x_aload_n dX12_bearers_32 rfl rfl ?_
        refine xm_geti dX12_bearers_33 lf_X12_149 vmi_15 ?_
        refine x_icmp_ge (tgt := 65) dX12_bearers_36 (by decide) (fun _ => ?_) (fun z => absurd (loopT hp1) z)
        refine x_iload_n dX12_bearers_65 rfl rfl ?_
        exact x_ireturn dX12_bearers_66 rfl rfl (hq)
      · intro i hlt ih
        refine x_iload dX12_bearers_30 rfl ?_
        refine x_aload_n dX12_bearers_32 rfl rfl ?_
        refine xm_geti dX12_bearers_33 lf_X12_149 vmi_15 ?_
        refine x_icmp_ge (tgt := 65) dX12_bearers_36 (by decide) (fun z => absurd z (loopF hp1 hlt (by omega))) (fun _ => ?_)
        refine x_iload_n dX12_bearers_39 rfl rfl ?_
        refine x_aload_n dX12_bearers_40 rfl rfl ?_
        refine x_iload dX12_bearers_41 rfl ?_
        refine x_iload_n dX12_bearers_43 rfl rfl ?_
        refine x_iload_n dX12_bearers_44 rfl rfl ?_
        refine x_cV3 dX12_bearers_45 lv_X12_332 mm_obj rfl rfl rfl  (c_X12_wordOf hi hc ?_)
        refine x_iconst (v := -1) dX12_bearers_48 (by decide) ?_
        refine x_icmp_eq (tgt := 56) dX12_bearers_49 (by decide) (fun h49 => ?_) (fun h49 => ?_)
        · refine x_iconst (v := 0) dX12_bearers_56 (by decide) ?_
          refine x_iadd dX12_bearers_57 ?_
          refine x_istore_n dX12_bearers_58 rfl (by decide) ?_
          refine x_iinc (c := 1) dX12_bearers_59 rfl (by decide) ?_
          refine x_goto (tgt := 30) dX12_bearers_62 (by decide) ?_
          refine x_loc _ (?_ : lle _ _) ih
          refine ⟨rfl, rfl, rfl, ?_, ?_, trivial⟩
          · show some (Value.int _) = some (Value.int (if spWord σ0 (nI i) say q (cn σ0 16) = -1 then spBear σ0 say q i else spBear σ0 say q i + 1))
            clear ih hq; grind [Int32.add_zero]
          · show some (Value.int _) = some (Value.int (nI (i + 1)))
            rw [← nI_1]
        · refine x_iconst (v := 1) dX12_bearers_52 (by decide) ?_
          refine x_goto (tgt := 57) dX12_bearers_53 (by decide) ?_
          refine x_iadd dX12_bearers_57 ?_
          refine x_istore_n dX12_bearers_58 rfl (by decide) ?_
          refine x_iinc (c := 1) dX12_bearers_59 rfl (by decide) ?_
          refine x_goto (tgt := 30) dX12_bearers_62 (by decide) ?_
          refine x_loc _ (?_ : lle _ _) ih
          refine ⟨rfl, rfl, rfl, ?_, ?_, trivial⟩
          · show some (Value.int _) = some (Value.int (if spWord σ0 (nI i) say q (cn σ0 16) = -1 then spBear σ0 say q i else spBear σ0 say q i + 1))
            clear ih hq; grind [Int32.add_zero]
          · show some (Value.int _) = some (Value.int (nI (i + 1)))
            rw [← nI_1]
    · refine x_iconst (v := -1) dX12_bearers_23 (by decide) ?_
      exact x_ireturn dX12_bearers_24 rfl rfl (fan_f hq (fun z => by first | exact h12 z.1 | exact h20 z.2))
theorem c_X12_mark {r l v : Int32} (hi : adOK ad) (h0 : seti σ 0 0 = σ0) (hc : Cnt σ0) (hq : Q (some (.int (aMark σ0 r l v))) (mm ad (nMark σ0 r l v))) : CT G (d + 2) (0, 0) MX12_mark [.ref (ad 99), .int r, .int l, .int v] (mm ad σ) Q := by
  obtain ⟨hl1, hl2⟩ := hc.b 49 (b := 200) (by decide)
  refine CT.of rfl (Nat.le_of_ble_eq_true rfl) ?_
  refine x_aload_n dX12_mark_0 rfl rfl ?_
  refine x_iconst (v := 0) dX12_mark_1 (by decide) ?_
  refine xm_puti dX12_mark_2 lp_X12_138 vmq_0 vmn_0 vmf_0 ?_
  rw [h0]
  refine x_aload_n dX12_mark_5 rfl rfl ?_
  refine xm_geti dX12_mark_6 lf_X12_335 vmi_49 ?_
  refine x_sipush (v := 200) dX12_mark_9 (by decide) ?_
  refine x_icmp_eq (tgt := 40) dX12_mark_12 (by decide) (fun h12 => ?_) (fun h12 => ?_)
  · refine x_iconst (v := 0) dX12_mark_40 (by decide) ?_
    exact x_ireturn dX12_mark_41 rfl rfl (fbn_f (m := mm ad) hq (fun z => by first | exact z.1 h12 | exact h19 z.2.1 | exact h27 z.2.2.1 | exact h37 z.2.2.2))
  · refine x_iload_n dX12_mark_15 rfl rfl ?_
    refine x_cS1 dX12_mark_16 ls_X12_338 rfl  (c_X12_isReader ?_)
    refine x_if_eq_b (tgt := 40) dX12_mark_19 (by decide) (fun h19 => ?_) (fun h19 => ?_)
    · refine x_iconst (v := 0) dX12_mark_40 (by decide) ?_
      exact x_ireturn dX12_mark_41 rfl rfl (fbn_f (m := mm ad) hq (fun z => by first | exact z.1 h12 | exact h19 z.2.1 | exact h27 z.2.2.1 | exact h37 z.2.2.2))
    · refine x_aload_n dX12_mark_22 rfl rfl ?_
      refine x_iload_n dX12_mark_23 rfl rfl ?_
      refine x_cV1 dX12_mark_24 lv_X12_155 mm_obj rfl rfl rfl  (c_X12_isLine ?_)
      refine x_if_eq_b (tgt := 40) dX12_mark_27 (by decide) (fun h27 => ?_) (fun h27 => ?_)
      · refine x_iconst (v := 0) dX12_mark_40 (by decide) ?_
        exact x_ireturn dX12_mark_41 rfl rfl (fbn_f (m := mm ad) hq (fun z => by first | exact z.1 h12 | exact h19 z.2.1 | exact h27 z.2.2.1 | exact h37 z.2.2.2))
      · refine x_iload_n dX12_mark_30 rfl rfl ?_
        refine x_iconst (v := 0) dX12_mark_31 (by decide) ?_
        refine x_bipush (v := 9) dX12_mark_32 (by decide) ?_
        refine x_cS3 dX12_mark_34 ls_X12_145 rfl  (c_X12_isIn ?_)
        refine x_if_ne_b (tgt := 42) dX12_mark_37 (by decide) (fun h37 => ?_) (fun h37 => ?_)
        · have hin := in_cnt hl1 hl2 (v := 200) rfl h12 (by decide)
          refine x_aload_n dX12_mark_42 rfl rfl ?_
          refine xm_geta dX12_mark_43 lf_X12_93 vma_45 ?_
          refine x_aload_n dX12_mark_46 rfl rfl ?_
          refine xm_geti dX12_mark_47 lf_X12_335 vmi_49 ?_
          refine x_iload_n dX12_mark_50 rfl rfl ?_
          refine xm_iast 45 dX12_mark_51 mf_45 hi hin rfl ?_
          refine x_aload_n dX12_mark_52 rfl rfl ?_
          refine xm_geta dX12_mark_53 lf_X12_96 vma_46 ?_
          refine x_aload_n dX12_mark_56 rfl rfl ?_
          refine xm_geti dX12_mark_57 lf_X12_335 vmi_49 ?_
          refine x_iload_n dX12_mark_60 rfl rfl ?_
          refine xm_iast 46 dX12_mark_61 mf_46 hi hin rfl ?_
          refine x_aload_n dX12_mark_62 rfl rfl ?_
          refine xm_geta dX12_mark_63 lf_X12_99 vma_47 ?_
          refine x_aload_n dX12_mark_66 rfl rfl ?_
          refine xm_geti dX12_mark_67 lf_X12_335 vmi_49 ?_
          refine x_iload_n dX12_mark_70 rfl rfl ?_
          refine xm_iast 47 dX12_mark_71 mf_47 hi hin rfl ?_
          refine x_aload_n dX12_mark_72 rfl rfl ?_
          refine xm_geta dX12_mark_73 lf_X12_102 vma_48 ?_
          refine x_aload_n dX12_mark_76 rfl rfl ?_
          refine xm_geti dX12_mark_77 lf_X12_335 vmi_49 ?_
          refine x_aload_n dX12_mark_80 rfl rfl ?_
          refine xm_geti dX12_mark_81 lf_X12_142 vmi_1 ?_
          refine xm_iast 48 dX12_mark_84 mf_48 hi hin rfl ?_
          refine x_aload_n dX12_mark_85 rfl rfl ?_
          refine x_dup dX12_mark_86 rfl ?_
          refine xm_geti dX12_mark_87 lf_X12_335 vmi_49 ?_
          refine x_iconst (v := 1) dX12_mark_90 (by decide) ?_
          refine x_iadd dX12_mark_91 ?_
          refine xm_puti dX12_mark_92 lp_X12_335 vmq_49 vmn_49 vmf_49 ?_
          refine x_iconst (v := 1) dX12_mark_95 (by decide) ?_
          exact x_ireturn dX12_mark_96 rfl rfl (fbn_t (m := mm ad) hq ⟨h12, h19, h27, h37⟩)
        · refine x_iconst (v := 0) dX12_mark_40 (by decide) ?_
          exact x_ireturn dX12_mark_41 rfl rfl (fbn_f (m := mm ad) hq (fun z => by first | exact z.1 h12 | exact h19 z.2.1 | exact h27 z.2.2.1 | exact h37 z.2.2.2))
theorem c_X12_markOf {r l q : Int32} (hi : adOK ad) (hc : Cnt σ) (hq : Q (some (.int (spMark σ r l q (cn σ 49)))) (mm ad σ)) : CT G d (0, 0) MX12_markOf [.ref (ad 99), .int r, .int l, .int q] (mm ad σ) Q := by
  obtain ⟨hl1, hl2⟩ := hc.b 49 (b := 200) (by decide)
  refine CT.of rfl (Nat.le_of_ble_eq_true rfl) ?_
  refine x_iconst (v := -1) dX12_markOf_0 (by decide) ?_
  refine x_istore dX12_markOf_1 (by decide) ?_
  refine x_iconst (v := 0) dX12_markOf_3 (by decide) ?_
  refine x_istore dX12_markOf_4 (by decide) ?_
  refine x_loc [(0, .ref (ad 99)), (1, .int r), (2, .int l), (3, .int q), (4, .int (spMark σ r l q 0)), (5, .int (nI 0))] ⟨rfl, rfl, rfl, rfl, rfl, rfl, trivial⟩ ?_
  refine loop_up (P := fun i => XJ G d (0, 0) MX12_markOf (mm ad σ) [(0, .ref (ad 99)), (1, .int r), (2, .int l), (3, .int q), (4, .int (spMark σ r l q i)), (5, .int (nI i))] [] 6 Q) (n := cn σ 49) ?_ ?_ 0 (Nat.zero_le _)
  · refine x_iload dX12_markOf_6 rfl ?_
    refine x_aload_n dX12_markOf_8 rfl rfl ?_
    refine xm_geti dX12_markOf_9 lf_X12_335 vmi_49 ?_
    refine x_icmp_ge (tgt := 63) dX12_markOf_12 (by decide) (fun _ => ?_) (fun z => absurd (loopT hl1) z)
    refine x_iload dX12_markOf_63 rfl ?_
    exact x_ireturn dX12_markOf_65 rfl rfl (hq)
  · intro i hlt ih
    have hin : vp_in (nI i) 200 := vp_in_nI (by omega) (by decide)
    have hcl : (nI i).toNatClampNeg = i := nI_clamp (by omega)
    refine x_iload dX12_markOf_6 rfl ?_
    refine x_aload_n dX12_markOf_8 rfl rfl ?_
    refine xm_geti dX12_markOf_9 lf_X12_335 vmi_49 ?_
    refine x_icmp_ge (tgt := 63) dX12_markOf_12 (by decide) (fun z => absurd z (loopF hl1 hlt (by omega))) (fun _ => ?_)
    refine x_aload_n dX12_markOf_15 rfl rfl ?_
    refine xm_geta dX12_markOf_16 lf_X12_93 vma_45 ?_
    refine x_iload dX12_markOf_19 rfl ?_
    refine xm_iald 45 dX12_markOf_21 mf_45 hi hin hcl ?_
    refine x_iload_n dX12_markOf_22 rfl rfl ?_
    refine x_icmp_ne (tgt := 57) dX12_markOf_23 (by decide) (fun h23 => ?_) (fun h23 => ?_)
    · refine x_iinc (c := 1) dX12_markOf_57 rfl (by decide) ?_
      refine x_goto (tgt := 6) dX12_markOf_60 (by decide) ?_
      refine x_loc _ (?_ : lle _ _) ih
      refine ⟨rfl, rfl, rfl, rfl, ?_, ?_, trivial⟩
      · show some (Value.int _) = some (Value.int (if σ.2 45 i = r ∧ σ.2 46 i = l ∧ σ.2 48 i ≤ q then σ.2 47 i else spMark σ r l q i))
        clear ih hq; grind
      · show some (Value.int _) = some (Value.int (nI (i + 1)))
        rw [← nI_1]
    · refine x_aload_n dX12_markOf_26 rfl rfl ?_
      refine xm_geta dX12_markOf_27 lf_X12_96 vma_46 ?_
      refine x_iload dX12_markOf_30 rfl ?_
      refine xm_iald 46 dX12_markOf_32 mf_46 hi hin hcl ?_
      refine x_iload_n dX12_markOf_33 rfl rfl ?_
      refine x_icmp_ne (tgt := 57) dX12_markOf_34 (by decide) (fun h34 => ?_) (fun h34 => ?_)
      · refine x_iinc (c := 1) dX12_markOf_57 rfl (by decide) ?_
        refine x_goto (tgt := 6) dX12_markOf_60 (by decide) ?_
        refine x_loc _ (?_ : lle _ _) ih
        refine ⟨rfl, rfl, rfl, rfl, ?_, ?_, trivial⟩
        · show some (Value.int _) = some (Value.int (if σ.2 45 i = r ∧ σ.2 46 i = l ∧ σ.2 48 i ≤ q then σ.2 47 i else spMark σ r l q i))
          clear ih hq; grind
        · show some (Value.int _) = some (Value.int (nI (i + 1)))
          rw [← nI_1]
      · refine x_aload_n dX12_markOf_37 rfl rfl ?_
        refine xm_geta dX12_markOf_38 lf_X12_102 vma_48 ?_
        refine x_iload dX12_markOf_41 rfl ?_
        refine xm_iald 48 dX12_markOf_43 mf_48 hi hin hcl ?_
        refine x_iload_n dX12_markOf_44 rfl rfl ?_
        refine x_icmp_gt (tgt := 57) dX12_markOf_45 (by decide) (fun h45 => ?_) (fun h45 => ?_)
        · refine x_iinc (c := 1) dX12_markOf_57 rfl (by decide) ?_
          refine x_goto (tgt := 6) dX12_markOf_60 (by decide) ?_
          refine x_loc _ (?_ : lle _ _) ih
          refine ⟨rfl, rfl, rfl, rfl, ?_, ?_, trivial⟩
          · show some (Value.int _) = some (Value.int (if σ.2 45 i = r ∧ σ.2 46 i = l ∧ σ.2 48 i ≤ q then σ.2 47 i else spMark σ r l q i))
            clear ih hq; grind
          · show some (Value.int _) = some (Value.int (nI (i + 1)))
            rw [← nI_1]
        · refine x_aload_n dX12_markOf_48 rfl rfl ?_
          refine xm_geta dX12_markOf_49 lf_X12_99 vma_47 ?_
          refine x_iload dX12_markOf_52 rfl ?_
          refine xm_iald 47 dX12_markOf_54 mf_47 hi hin hcl ?_
          refine x_istore dX12_markOf_55 (by decide) ?_
          refine x_iinc (c := 1) dX12_markOf_57 rfl (by decide) ?_
          refine x_goto (tgt := 6) dX12_markOf_60 (by decide) ?_
          refine x_loc _ (?_ : lle _ _) ih
          refine ⟨rfl, rfl, rfl, rfl, ?_, ?_, trivial⟩
          · show some (Value.int _) = some (Value.int (if σ.2 45 i = r ∧ σ.2 46 i = l ∧ σ.2 48 i ≤ q then σ.2 47 i else spMark σ r l q i))
            clear ih hq; grind
          · show some (Value.int _) = some (Value.int (nI (i + 1)))
            rw [← nI_1]
theorem c_X12_marked {r l q : Int32} (hi : adOK ad) (h0 : seti σ 0 0 = σ0) (hc : Cnt σ0) (hq : Q (some (.int (aMarked σ0 r l q))) (mm ad σ0)) : CT G (d + 2) (0, 0) MX12_marked [.ref (ad 99), .int r, .int l, .int q] (mm ad σ) Q := by
  refine CT.of rfl (Nat.le_of_ble_eq_true rfl) ?_
  refine x_aload_n dX12_marked_0 rfl rfl ?_
  refine x_iconst (v := 0) dX12_marked_1 (by decide) ?_
  refine xm_puti dX12_marked_2 lp_X12_138 vmq_0 vmn_0 vmf_0 ?_
  rw [h0]
  refine x_iload_n dX12_marked_5 rfl rfl ?_
  refine x_cS1 dX12_marked_6 ls_X12_338 rfl  (c_X12_isReader ?_)
  refine x_if_eq_b (tgt := 38) dX12_marked_9 (by decide) (fun h9 => ?_) (fun h9 => ?_)
  · refine x_iconst (v := -1) dX12_marked_38 (by decide) ?_
    exact x_ireturn dX12_marked_39 rfl rfl (by first | exact fan_t hq ⟨h9, h17, h25⟩ | exact fan_f hq (fun z => h9 z.1) | exact fan_f hq (fun z => h17 z.2.1) | exact fan_f hq (fun z => h25 z.2.2))
  · refine x_aload_n dX12_marked_12 rfl rfl ?_
    refine x_iload_n dX12_marked_13 rfl rfl ?_
    refine x_cV1 dX12_marked_14 lv_X12_155 mm_obj rfl rfl rfl  (c_X12_isLine ?_)
    refine x_if_eq_b (tgt := 38) dX12_marked_17 (by decide) (fun h17 => ?_) (fun h17 => ?_)
    · refine x_iconst (v := -1) dX12_marked_38 (by decide) ?_
      exact x_ireturn dX12_marked_39 rfl rfl (by first | exact fan_t hq ⟨h9, h17, h25⟩ | exact fan_f hq (fun z => h9 z.1) | exact fan_f hq (fun z => h17 z.2.1) | exact fan_f hq (fun z => h25 z.2.2))
    · refine x_aload_n dX12_marked_20 rfl rfl ?_
      refine x_iload_n dX12_marked_21 rfl rfl ?_
      refine x_cV1 dX12_marked_22 lv_X12_159 mm_obj rfl rfl rfl  (c_X12_isKnown ?_)
      refine x_if_eq_b (tgt := 38) dX12_marked_25 (by decide) (fun h25 => ?_) (fun h25 => ?_)
      · refine x_iconst (v := -1) dX12_marked_38 (by decide) ?_
        exact x_ireturn dX12_marked_39 rfl rfl (by first | exact fan_t hq ⟨h9, h17, h25⟩ | exact fan_f hq (fun z => h9 z.1) | exact fan_f hq (fun z => h17 z.2.1) | exact fan_f hq (fun z => h25 z.2.2))
      · refine x_aload_n dX12_marked_28 rfl rfl ?_
        refine x_iload_n dX12_marked_29 rfl rfl ?_
        refine x_iload_n dX12_marked_30 rfl rfl ?_
        refine x_iload_n dX12_marked_31 rfl rfl ?_
        refine x_cV3 dX12_marked_32 lv_X12_341 mm_obj rfl rfl rfl  (c_X12_markOf hi hc ?_)
        refine x_goto (tgt := 39) dX12_marked_35 (by decide) ?_
        exact x_ireturn dX12_marked_39 rfl rfl (by first | exact fan_t hq ⟨h9, h17, h25⟩ | exact fan_f hq (fun z => h9 z.1) | exact fan_f hq (fun z => h17 z.2.1) | exact fan_f hq (fun z => h25 z.2.2))
theorem c_X12_agree {one other q what : Int32} (hi : adOK ad) (h0 : seti σ 0 0 = σ0) (hc : Cnt σ0) (hq : Q (some (.int (aAgree σ0 one other q what))) (mm ad σ0)) : CT G (d + 2) (0, 0) MX12_agree [.ref (ad 99), .int one, .int other, .int q, .int what] (mm ad σ) Q := by
  obtain ⟨hl1, hl2⟩ := hc.b 16 (b := 200) (by decide)
  refine CT.of rfl (Nat.le_of_ble_eq_true rfl) ?_
  refine x_aload_n dX12_agree_0 rfl rfl ?_
  refine x_iconst (v := 0) dX12_agree_1 (by decide) ?_
  refine xm_puti dX12_agree_2 lp_X12_138 vmq_0 vmn_0 vmf_0 ?_
  rw [h0]
  refine x_iload_n dX12_agree_5 rfl rfl ?_
  refine x_cS1 dX12_agree_6 ls_X12_338 rfl  (c_X12_isReader ?_)
  refine x_if_eq_b (tgt := 42) dX12_agree_9 (by decide) (fun h9 => ?_) (fun h9 => ?_)
  · refine x_iconst (v := -1) dX12_agree_42 (by decide) ?_
    exact x_ireturn dX12_agree_43 rfl rfl (fan_f hq (fun z => by first | exact h9 z.1 | exact h16 z.2.1 | exact z.2.2.1 h21 | exact h29 z.2.2.2.1 | exact h39 z.2.2.2.2))
  · refine x_iload_n dX12_agree_12 rfl rfl ?_
    refine x_cS1 dX12_agree_13 ls_X12_338 rfl  (c_X12_isReader ?_)
    refine x_if_eq_b (tgt := 42) dX12_agree_16 (by decide) (fun h16 => ?_) (fun h16 => ?_)
    · refine x_iconst (v := -1) dX12_agree_42 (by decide) ?_
      exact x_ireturn dX12_agree_43 rfl rfl (fan_f hq (fun z => by first | exact h9 z.1 | exact h16 z.2.1 | exact z.2.2.1 h21 | exact h29 z.2.2.2.1 | exact h39 z.2.2.2.2))
    · refine x_iload_n dX12_agree_19 rfl rfl ?_
      refine x_iload_n dX12_agree_20 rfl rfl ?_
      refine x_icmp_eq (tgt := 42) dX12_agree_21 (by decide) (fun h21 => ?_) (fun h21 => ?_)
      · refine x_iconst (v := -1) dX12_agree_42 (by decide) ?_
        exact x_ireturn dX12_agree_43 rfl rfl (fan_f hq (fun z => by first | exact h9 z.1 | exact h16 z.2.1 | exact z.2.2.1 h21 | exact h29 z.2.2.2.1 | exact h39 z.2.2.2.2))
      · refine x_aload_n dX12_agree_24 rfl rfl ?_
        refine x_iload_n dX12_agree_25 rfl rfl ?_
        refine x_cV1 dX12_agree_26 lv_X12_159 mm_obj rfl rfl rfl  (c_X12_isKnown ?_)
        refine x_if_eq_b (tgt := 42) dX12_agree_29 (by decide) (fun h29 => ?_) (fun h29 => ?_)
        · refine x_iconst (v := -1) dX12_agree_42 (by decide) ?_
          exact x_ireturn dX12_agree_43 rfl rfl (fan_f hq (fun z => by first | exact h9 z.1 | exact h16 z.2.1 | exact z.2.2.1 h21 | exact h29 z.2.2.2.1 | exact h39 z.2.2.2.2))
        · refine x_iload dX12_agree_32 rfl ?_
          refine x_iconst (v := 0) dX12_agree_34 (by decide) ?_
          refine x_iconst (v := 1) dX12_agree_35 (by decide) ?_
          refine x_cS3 dX12_agree_36 ls_X12_145 rfl  (c_X12_isIn ?_)
          refine x_if_ne_b (tgt := 44) dX12_agree_39 (by decide) (fun h39 => ?_) (fun h39 => ?_)
          · have hq := fan_t hq ⟨h9, h16, h21, h29, h39⟩
            refine x_iconst (v := 0) dX12_agree_44 (by decide) ?_
            refine x_istore dX12_agree_45 (by decide) ?_
            refine x_iconst (v := 0) dX12_agree_47 (by decide) ?_
            refine x_istore dX12_agree_48 (by decide) ?_
            refine x_loc [(0, .ref (ad 99)), (1, .int one), (2, .int other), (3, .int q), (4, .int what), (5, .int (spAgree σ0 one other q what 0)), (6, .int (nI 0))] ⟨rfl, rfl, rfl, rfl, rfl, rfl, rfl, trivial⟩ ?_
            refine loop_up (P := fun i => XJ G (d + 2) (0, 0) MX12_agree (mm ad σ0) [(0, .ref (ad 99)), (1, .int one), (2, .int other), (3, .int q), (4, .int what), (5, .int (spAgree σ0 one other q what i)), (6, .int (nI i))] [] 50 Q) (n := cn σ0 16) ?_ ?_ 0 (Nat.zero_le _)
            · refine x_iload dX12_agree_50 rfl ?_
              refine x_aload_n dX12_agree_52 rfl rfl ?_
              refine xm_geti dX12_agree_53 lf_X12_152 vmi_16 ?_
              refine x_icmp_ge (tgt := 120) dX12_agree_56 (by decide) (fun _ => ?_) (fun z => absurd (loopT hl1) z)
              refine x_iload dX12_agree_120 rfl ?_
              exact x_ireturn dX12_agree_122 rfl rfl (hq)
            · intro i hlt ih
              refine x_iload dX12_agree_50 rfl ?_
              refine x_aload_n dX12_agree_52 rfl rfl ?_
              refine xm_geti dX12_agree_53 lf_X12_152 vmi_16 ?_
              refine x_icmp_ge (tgt := 120) dX12_agree_56 (by decide) (fun z => absurd z (loopF hl1 hlt (by omega))) (fun _ => ?_)
              refine x_aload_n dX12_agree_59 rfl rfl ?_
              refine x_iload_n dX12_agree_60 rfl rfl ?_
              refine x_iload dX12_agree_61 rfl ?_
              refine x_iload_n dX12_agree_63 rfl rfl ?_
              refine x_cV3 dX12_agree_64 lv_X12_341 mm_obj rfl rfl rfl  (c_X12_markOf hi hc ?_)
              refine x_istore dX12_agree_67 (by decide) ?_
              refine x_aload_n dX12_agree_69 rfl rfl ?_
              refine x_iload_n dX12_agree_70 rfl rfl ?_
              refine x_iload dX12_agree_71 rfl ?_
              refine x_iload_n dX12_agree_73 rfl rfl ?_
              refine x_cV3 dX12_agree_74 lv_X12_341 mm_obj rfl rfl rfl  (c_X12_markOf hi hc ?_)
              refine x_istore dX12_agree_77 (by decide) ?_
              refine x_iload dX12_agree_79 rfl ?_
              refine x_iload dX12_agree_81 rfl ?_
              refine x_iconst (v := -1) dX12_agree_83 (by decide) ?_
              refine x_icmp_eq (tgt := 110) dX12_agree_84 (by decide) (fun h84 => ?_) (fun h84 => ?_)
              · refine x_iconst (v := 0) dX12_agree_110 (by decide) ?_
                refine x_iadd dX12_agree_111 ?_
                refine x_istore dX12_agree_112 (by decide) ?_
                refine x_iinc (c := 1) dX12_agree_114 rfl (by decide) ?_
                refine x_goto (tgt := 50) dX12_agree_117 (by decide) ?_
                refine x_loc _ (?_ : lle _ _) ih
                refine ⟨rfl, rfl, rfl, rfl, rfl, ?_, ?_, trivial⟩
                · show some (Value.int _) = some (Value.int (if mk σ0 q one i ≠ -1 ∧ mk σ0 q other i ≠ -1 ∧ (what = 1 ∨ mk σ0 q one i = mk σ0 q other i) then spAgree σ0 one other q what i + 1 else spAgree σ0 one other q what i))
                  clear ih hq; grind [mk, Int32.add_zero]
                · show some (Value.int _) = some (Value.int (nI (i + 1)))
                  rw [← nI_1]
              · refine x_iload dX12_agree_87 rfl ?_
                refine x_iconst (v := -1) dX12_agree_89 (by decide) ?_
                refine x_icmp_eq (tgt := 110) dX12_agree_90 (by decide) (fun h90 => ?_) (fun h90 => ?_)
                · refine x_iconst (v := 0) dX12_agree_110 (by decide) ?_
                  refine x_iadd dX12_agree_111 ?_
                  refine x_istore dX12_agree_112 (by decide) ?_
                  refine x_iinc (c := 1) dX12_agree_114 rfl (by decide) ?_
                  refine x_goto (tgt := 50) dX12_agree_117 (by decide) ?_
                  refine x_loc _ (?_ : lle _ _) ih
                  refine ⟨rfl, rfl, rfl, rfl, rfl, ?_, ?_, trivial⟩
                  · show some (Value.int _) = some (Value.int (if mk σ0 q one i ≠ -1 ∧ mk σ0 q other i ≠ -1 ∧ (what = 1 ∨ mk σ0 q one i = mk σ0 q other i) then spAgree σ0 one other q what i + 1 else spAgree σ0 one other q what i))
                    clear ih hq; grind [mk, Int32.add_zero]
                  · show some (Value.int _) = some (Value.int (nI (i + 1)))
                    rw [← nI_1]
                · refine x_iload dX12_agree_93 rfl ?_
                  refine x_iconst (v := 1) dX12_agree_95 (by decide) ?_
                  refine x_icmp_eq (tgt := 106) dX12_agree_96 (by decide) (fun h96 => ?_) (fun h96 => ?_)
                  · refine x_iconst (v := 1) dX12_agree_106 (by decide) ?_
                    refine x_goto (tgt := 111) dX12_agree_107 (by decide) ?_
                    refine x_iadd dX12_agree_111 ?_
                    refine x_istore dX12_agree_112 (by decide) ?_
                    refine x_iinc (c := 1) dX12_agree_114 rfl (by decide) ?_
                    refine x_goto (tgt := 50) dX12_agree_117 (by decide) ?_
                    refine x_loc _ (?_ : lle _ _) ih
                    refine ⟨rfl, rfl, rfl, rfl, rfl, ?_, ?_, trivial⟩
                    · show some (Value.int _) = some (Value.int (if mk σ0 q one i ≠ -1 ∧ mk σ0 q other i ≠ -1 ∧ (what = 1 ∨ mk σ0 q one i = mk σ0 q other i) then spAgree σ0 one other q what i + 1 else spAgree σ0 one other q what i))
                      clear ih hq; grind [mk, Int32.add_zero]
                    · show some (Value.int _) = some (Value.int (nI (i + 1)))
                      rw [← nI_1]
                  · refine x_iload dX12_agree_99 rfl ?_
                    refine x_iload dX12_agree_101 rfl ?_
                    refine x_icmp_ne (tgt := 110) dX12_agree_103 (by decide) (fun h103 => ?_) (fun h103 => ?_)
                    · refine x_iconst (v := 0) dX12_agree_110 (by decide) ?_
                      refine x_iadd dX12_agree_111 ?_
                      refine x_istore dX12_agree_112 (by decide) ?_
                      refine x_iinc (c := 1) dX12_agree_114 rfl (by decide) ?_
                      refine x_goto (tgt := 50) dX12_agree_117 (by decide) ?_
                      refine x_loc _ (?_ : lle _ _) ih
                      refine ⟨rfl, rfl, rfl, rfl, rfl, ?_, ?_, trivial⟩
                      · show some (Value.int _) = some (Value.int (if mk σ0 q one i ≠ -1 ∧ mk σ0 q other i ≠ -1 ∧ (what = 1 ∨ mk σ0 q one i = mk σ0 q other i) then spAgree σ0 one other q what i + 1 else spAgree σ0 one other q what i))
                        clear ih hq; grind [mk, Int32.add_zero]
                      · show some (Value.int _) = some (Value.int (nI (i + 1)))
                        rw [← nI_1]
                    · refine x_iconst (v := 1) dX12_agree_106 (by decide) ?_
                      refine x_goto (tgt := 111) dX12_agree_107 (by decide) ?_
                      refine x_iadd dX12_agree_111 ?_
                      refine x_istore dX12_agree_112 (by decide) ?_
                      refine x_iinc (c := 1) dX12_agree_114 rfl (by decide) ?_
                      refine x_goto (tgt := 50) dX12_agree_117 (by decide) ?_
                      refine x_loc _ (?_ : lle _ _) ih
                      refine ⟨rfl, rfl, rfl, rfl, rfl, ?_, ?_, trivial⟩
                      · show some (Value.int _) = some (Value.int (if mk σ0 q one i ≠ -1 ∧ mk σ0 q other i ≠ -1 ∧ (what = 1 ∨ mk σ0 q one i = mk σ0 q other i) then spAgree σ0 one other q what i + 1 else spAgree σ0 one other q what i))
                        clear ih hq; grind [mk, Int32.add_zero]
                      · show some (Value.int _) = some (Value.int (nI (i + 1)))
                        rw [← nI_1]
          · refine x_iconst (v := -1) dX12_agree_42 (by decide) ?_
            exact x_ireturn dX12_agree_43 rfl rfl (fan_f hq (fun z => by first | exact h9 z.1 | exact h16 z.2.1 | exact z.2.2.1 h21 | exact h29 z.2.2.2.1 | exact h39 z.2.2.2.2))
theorem c_X12_land {a b c : Int32} (hi : adOK ad) (h0 : seti σ 0 0 = σ0) (hq : Q (some (.int (aLand a b c))) (mm ad (nLand σ0 a b c))) : CT G (d + 1) (0, 0) MX12_land [.ref (ad 99), .int a, .int b, .int c] (mm ad σ) Q := by
  refine CT.of rfl (Nat.le_of_ble_eq_true rfl) ?_
  refine x_aload_n dX12_land_0 rfl rfl ?_
  refine x_iconst (v := 0) dX12_land_1 (by decide) ?_
  refine xm_puti dX12_land_2 lp_X12_138 vmq_0 vmn_0 vmf_0 ?_
  rw [h0]
  refine x_iload_n dX12_land_5 rfl rfl ?_
  refine x_iconst (v := 0) dX12_land_6 (by decide) ?_
  refine x_bipush (v := 7) dX12_land_7 (by decide) ?_
  refine x_cS3 dX12_land_9 ls_X12_145 rfl  (c_X12_isIn ?_)
  refine x_if_eq_b (tgt := 35) dX12_land_12 (by decide) (fun h12 => ?_) (fun h12 => ?_)
  · refine x_iconst (v := 0) dX12_land_35 (by decide) ?_
    exact x_ireturn dX12_land_36 rfl rfl (fbn_f (m := mm ad) hq (fun z => by first | exact h12 z.1 | exact h21 z.2.1 | exact h32 z.2.2))
  · refine x_iload_n dX12_land_15 rfl rfl ?_
    refine x_iconst (v := 0) dX12_land_16 (by decide) ?_
    refine x_iconst (v := 3) dX12_land_17 (by decide) ?_
    refine x_cS3 dX12_land_18 ls_X12_145 rfl  (c_X12_isIn ?_)
    refine x_if_eq_b (tgt := 35) dX12_land_21 (by decide) (fun h21 => ?_) (fun h21 => ?_)
    · refine x_iconst (v := 0) dX12_land_35 (by decide) ?_
      exact x_ireturn dX12_land_36 rfl rfl (fbn_f (m := mm ad) hq (fun z => by first | exact h12 z.1 | exact h21 z.2.1 | exact h32 z.2.2))
    · refine x_iload_n dX12_land_24 rfl rfl ?_
      refine x_iconst (v := 0) dX12_land_25 (by decide) ?_
      refine x_sipush (v := 9999) dX12_land_26 (by decide) ?_
      refine x_cS3 dX12_land_29 ls_X12_145 rfl  (c_X12_isIn ?_)
      refine x_if_ne_b (tgt := 37) dX12_land_32 (by decide) (fun h32 => ?_) (fun h32 => ?_)
      · obtain ⟨j1, hj1, e1⟩ := nI_of2 (M := 7) (n := 7) rfl (Int32.not_lt.mpr h12.1) h12.2
        obtain ⟨j2, hj2, e2⟩ := nI_of2 (M := 3) (n := 3) rfl (Int32.not_lt.mpr h21.1) h21.2
        have hin : vp_in (4 * a + b) 32 := by
          rw [e1, e2, show (4 : Int32) = nI 4 from rfl, pk_mul, nI_add]
          exact vp_in_nI (by omega) (by decide)
        refine x_aload_n dX12_land_37 rfl rfl ?_
        refine xm_geta dX12_land_38 lf_X12_105 vma_50 ?_
        refine x_iconst (v := 4) dX12_land_41 (by decide) ?_
        refine x_iload_n dX12_land_42 rfl rfl ?_
        refine x_imul dX12_land_43 ?_
        refine x_iload_n dX12_land_44 rfl rfl ?_
        refine x_iadd dX12_land_45 ?_
        refine x_iload_n dX12_land_46 rfl rfl ?_
        refine xm_iast 50 dX12_land_47 mf_50 hi hin rfl ?_
        refine x_iconst (v := 1) dX12_land_48 (by decide) ?_
        exact x_ireturn dX12_land_49 rfl rfl (fbn_t (m := mm ad) hq ⟨h12, h21, h32⟩)
      · refine x_iconst (v := 0) dX12_land_35 (by decide) ?_
        exact x_ireturn dX12_land_36 rfl rfl (fbn_f (m := mm ad) hq (fun z => by first | exact h12 z.1 | exact h21 z.2.1 | exact h32 z.2.2))
theorem c_X12_people (hi : adOK ad) (hq : Q (some (.int (spPeople σ 32))) (mm ad σ)) : CT G d (0, 0) MX12_people [.ref (ad 99)] (mm ad σ) Q := by
  refine CT.of rfl (Nat.le_of_ble_eq_true rfl) ?_
  refine x_iconst (v := 0) dX12_people_0 (by decide) ?_
  refine x_istore_n dX12_people_1 rfl (by decide) ?_
  refine x_iconst (v := 0) dX12_people_2 (by decide) ?_
  refine x_istore_n dX12_people_3 rfl (by decide) ?_
  refine x_loc [(0, .ref (ad 99)), (1, .int (spPeople σ 0)), (2, .int (nI 0))] ⟨rfl, rfl, rfl, trivial⟩ ?_
  refine loop_up (P := fun i => XJ G d (0, 0) MX12_people (mm ad σ) [(0, .ref (ad 99)), (1, .int (spPeople σ i)), (2, .int (nI i))] [] 4 Q) (n := 32) ?_ ?_ 0 (Nat.zero_le _)
  · refine x_iload_n dX12_people_4 rfl rfl ?_
    refine x_bipush (v := 32) dX12_people_5 (by decide) ?_
    refine x_icmp_ge (tgt := 25) dX12_people_7 (by decide) (fun _ => ?_) (fun z => absurd (loopT (show (32 : Int32) = nI 32 from rfl)) z)
    refine x_iload_n dX12_people_25 rfl rfl ?_
    exact x_ireturn dX12_people_26 rfl rfl (hq)
  · intro i hlt ih
    have hin : vp_in (nI i) 32 := vp_in_nI (by omega) (by decide)
    have hcl : (nI i).toNatClampNeg = i := nI_clamp (by omega)
    refine x_iload_n dX12_people_4 rfl rfl ?_
    refine x_bipush (v := 32) dX12_people_5 (by decide) ?_
    refine x_icmp_ge (tgt := 25) dX12_people_7 (by decide) (fun z => absurd z (loopF (show (32 : Int32) = nI 32 from rfl) hlt (by omega))) (fun _ => ?_)
    refine x_iload_n dX12_people_10 rfl rfl ?_
    refine x_aload_n dX12_people_11 rfl rfl ?_
    refine xm_geta dX12_people_12 lf_X12_105 vma_50 ?_
    refine x_iload_n dX12_people_15 rfl rfl ?_
    refine xm_iald 50 dX12_people_16 mf_50 hi hin hcl ?_
    refine x_iadd dX12_people_17 ?_
    refine x_istore_n dX12_people_18 rfl (by decide) ?_
    refine x_iinc (c := 1) dX12_people_19 rfl (by decide) ?_
    refine x_goto (tgt := 4) dX12_people_22 (by decide) ?_
    refine x_loc _ (?_ : lle _ _) ih
    refine ⟨rfl, ?_, ?_, trivial⟩
    · rfl
    · show some (Value.int _) = some (Value.int (nI (i + 1)))
      rw [← nI_1]
theorem c_X12_mood {day q what : Int32} (hi : adOK ad) (h0 : seti σ 0 0 = σ0) (hc : Cnt σ0) (hq : Q (some (.int (aMood σ0 day q what))) (mm ad σ0)) : CT G (d + 2) (0, 0) MX12_mood [.ref (ad 99), .int day, .int q, .int what] (mm ad σ) Q := by
  obtain ⟨hl1, hl2⟩ := hc.b 16 (b := 200) (by decide)
  refine CT.of rfl (Nat.le_of_ble_eq_true rfl) ?_
  refine x_aload_n dX12_mood_0 rfl rfl ?_
  refine x_iconst (v := 0) dX12_mood_1 (by decide) ?_
  refine xm_puti dX12_mood_2 lp_X12_138 vmq_0 vmn_0 vmf_0 ?_
  rw [h0]
  refine x_iload_n dX12_mood_5 rfl rfl ?_
  refine x_cS1 dX12_mood_6 ls_X12_175 rfl  (c_X12_isDay ?_)
  refine x_if_eq_b (tgt := 29) dX12_mood_9 (by decide) (fun h9 => ?_) (fun h9 => ?_)
  · refine x_ldcw dX12_mood_29 tb1627 ?_
    exact x_ireturn dX12_mood_32 rfl rfl (fan_f hq (fun z => by first | exact h9 z.1 | exact h17 z.2.1 | exact h26 z.2.2))
  · refine x_aload_n dX12_mood_12 rfl rfl ?_
    refine x_iload_n dX12_mood_13 rfl rfl ?_
    refine x_cV1 dX12_mood_14 lv_X12_159 mm_obj rfl rfl rfl  (c_X12_isKnown ?_)
    refine x_if_eq_b (tgt := 29) dX12_mood_17 (by decide) (fun h17 => ?_) (fun h17 => ?_)
    · refine x_ldcw dX12_mood_29 tb1627 ?_
      exact x_ireturn dX12_mood_32 rfl rfl (fan_f hq (fun z => by first | exact h9 z.1 | exact h17 z.2.1 | exact h26 z.2.2))
    · refine x_iload_n dX12_mood_20 rfl rfl ?_
      refine x_iconst (v := 0) dX12_mood_21 (by decide) ?_
      refine x_iconst (v := 1) dX12_mood_22 (by decide) ?_
      refine x_cS3 dX12_mood_23 ls_X12_145 rfl  (c_X12_isIn ?_)
      refine x_if_ne_b (tgt := 33) dX12_mood_26 (by decide) (fun h26 => ?_) (fun h26 => ?_)
      · have hq := fan_t hq ⟨h9, h17, h26⟩
        refine x_iconst (v := 0) dX12_mood_33 (by decide) ?_
        refine x_istore dX12_mood_34 (by decide) ?_
        refine x_iconst (v := 0) dX12_mood_36 (by decide) ?_
        refine x_istore dX12_mood_37 (by decide) ?_
        refine x_iconst (v := 0) dX12_mood_39 (by decide) ?_
        refine x_istore dX12_mood_40 (by decide) ?_
        refine x_loc [(0, .ref (ad 99)), (1, .int day), (2, .int q), (3, .int what), (4, .int (spMood σ0 day q 0).1), (5, .int (spMood σ0 day q 0).2), (6, .int (nI 0))] ⟨rfl, rfl, rfl, rfl, rfl, rfl, rfl, trivial⟩ ?_
        refine loop_up (P := fun i => XJ G (d + 2) (0, 0) MX12_mood (mm ad σ0) [(0, .ref (ad 99)), (1, .int day), (2, .int q), (3, .int what), (4, .int (spMood σ0 day q i).1), (5, .int (spMood σ0 day q i).2), (6, .int (nI i))] [] 42 Q) (n := cn σ0 16) ?_ ?_ 0 (Nat.zero_le _)
        · refine x_iload dX12_mood_42 rfl ?_
          refine x_aload_n dX12_mood_44 rfl rfl ?_
          refine xm_geti dX12_mood_45 lf_X12_152 vmi_16 ?_
          refine x_icmp_ge (tgt := 97) dX12_mood_48 (by decide) (fun _ => ?_) (fun z => absurd (loopT hl1) z)
          refine x_iload_n dX12_mood_97 rfl rfl ?_
          refine x_if_ne (tgt := 106) dX12_mood_98 (by decide) (fun h98 => ?_) (fun h98 => ?_)
          · refine x_iload dX12_mood_106 rfl ?_
            exact x_ireturn dX12_mood_108 rfl rfl (by first | (rw [if_pos h98] at hq; exact hq) | (rw [if_neg h98] at hq; exact hq))
          · refine x_iload dX12_mood_101 rfl ?_
            refine x_goto (tgt := 108) dX12_mood_103 (by decide) ?_
            exact x_ireturn dX12_mood_108 rfl rfl (by first | (rw [if_pos h98] at hq; exact hq) | (rw [if_neg h98] at hq; exact hq))
        · intro i hlt ih
          have hin : vp_in (nI i) 200 := vp_in_nI (by omega) (by decide)
          have hcl : (nI i).toNatClampNeg = i := nI_clamp (by omega)
          have hstep : spMood σ0 day q (i + 1) = if σ0.2 9 i = day ∧ σ0.2 14 i ≤ q then ((spMood σ0 day q i).1 + σ0.2 11 i, (spMood σ0 day q i).2 + 1) else spMood σ0 day q i := rfl
          refine x_iload dX12_mood_42 rfl ?_
          refine x_aload_n dX12_mood_44 rfl rfl ?_
          refine xm_geti dX12_mood_45 lf_X12_152 vmi_16 ?_
          refine x_icmp_ge (tgt := 97) dX12_mood_48 (by decide) (fun z => absurd z (loopF hl1 hlt (by omega))) (fun _ => ?_)
          refine x_aload_n dX12_mood_51 rfl rfl ?_
          refine xm_geta dX12_mood_52 lf_X12_31 vma_9 ?_
          refine x_iload dX12_mood_55 rfl ?_
          refine xm_iald 9 dX12_mood_57 mf_9 hi hin hcl ?_
          refine x_iload_n dX12_mood_58 rfl rfl ?_
          refine x_icmp_ne (tgt := 91) dX12_mood_59 (by decide) (fun h59 => ?_) (fun h59 => ?_)
          · refine x_iinc (c := 1) dX12_mood_91 rfl (by decide) ?_
            refine x_goto (tgt := 42) dX12_mood_94 (by decide) ?_
            refine x_loc _ (?_ : lle _ _) ih
            refine ⟨rfl, rfl, rfl, rfl, ?_, ?_, ?_, trivial⟩
            · show some (Value.int _) = some (Value.int (spMood σ0 day q (i + 1)).1)
              clear ih hq; grind
            · show some (Value.int _) = some (Value.int (spMood σ0 day q (i + 1)).2)
              clear ih hq; grind
            · show some (Value.int _) = some (Value.int (nI (i + 1)))
              rw [← nI_1]
          · refine x_aload_n dX12_mood_62 rfl rfl ?_
            refine xm_geta dX12_mood_63 lf_X12_46 vma_14 ?_
            refine x_iload dX12_mood_66 rfl ?_
            refine xm_iald 14 dX12_mood_68 mf_14 hi hin hcl ?_
            refine x_iload_n dX12_mood_69 rfl rfl ?_
            refine x_icmp_le (tgt := 76) dX12_mood_70 (by decide) (fun h70 => ?_) (fun h70 => ?_)
            · refine x_iload dX12_mood_76 rfl ?_
              refine x_aload_n dX12_mood_78 rfl rfl ?_
              refine xm_geta dX12_mood_79 lf_X12_37 vma_11 ?_
              refine x_iload dX12_mood_82 rfl ?_
              refine xm_iald 11 dX12_mood_84 mf_11 hi hin hcl ?_
              refine x_iadd dX12_mood_85 ?_
              refine x_istore dX12_mood_86 (by decide) ?_
              refine x_iinc (c := 1) dX12_mood_88 rfl (by decide) ?_
              refine x_iinc (c := 1) dX12_mood_91 rfl (by decide) ?_
              refine x_goto (tgt := 42) dX12_mood_94 (by decide) ?_
              refine x_loc _ (?_ : lle _ _) ih
              refine ⟨rfl, rfl, rfl, rfl, ?_, ?_, ?_, trivial⟩
              · show some (Value.int _) = some (Value.int (spMood σ0 day q (i + 1)).1)
                clear ih hq; grind
              · show some (Value.int _) = some (Value.int (spMood σ0 day q (i + 1)).2)
                clear ih hq; grind
              · show some (Value.int _) = some (Value.int (nI (i + 1)))
                rw [← nI_1]
            · refine x_goto (tgt := 91) dX12_mood_73 (by decide) ?_
              refine x_iinc (c := 1) dX12_mood_91 rfl (by decide) ?_
              refine x_goto (tgt := 42) dX12_mood_94 (by decide) ?_
              refine x_loc _ (?_ : lle _ _) ih
              refine ⟨rfl, rfl, rfl, rfl, ?_, ?_, ?_, trivial⟩
              · show some (Value.int _) = some (Value.int (spMood σ0 day q (i + 1)).1)
                clear ih hq; grind
              · show some (Value.int _) = some (Value.int (spMood σ0 day q (i + 1)).2)
                clear ih hq; grind
              · show some (Value.int _) = some (Value.int (nI (i + 1)))
                rw [← nI_1]
      · refine x_ldcw dX12_mood_29 tb1627 ?_
        exact x_ireturn dX12_mood_32 rfl rfl (fan_f hq (fun z => by first | exact h9 z.1 | exact h17 z.2.1 | exact h26 z.2.2))
theorem spLast_cases {σ : MS} {p q : Int32} : ∀ n, spLast σ p q n = -1 ∨ ∃ j, j < n ∧ spLast σ p q n = nI j := by
  intro n
  induction n with
  | zero => exact Or.inl rfl
  | succ n ih =>
    have e : spLast σ p q (n + 1) = if σ.2 8 n = p ∧ σ.2 14 n ≤ q ∧ (spLast σ p q n = -1 ∨ σ.2 9 (spLast σ p q n).toNatClampNeg ≤ σ.2 9 n) then nI n else spLast σ p q n := rfl
    rw [e]
    split
    · exact Or.inr ⟨n, by omega, rfl⟩
    · rcases ih with h | ⟨j, h1, h2⟩
      · exact Or.inl h
      · exact Or.inr ⟨j, by omega, h2⟩
theorem c_X12_lastOf {p q : Int32} (hi : adOK ad) (hc : Cnt σ) (hq : Q (some (.int (spLast σ p q (cn σ 16)))) (mm ad σ)) : CT G d (0, 0) MX12_lastOf [.ref (ad 99), .int p, .int q] (mm ad σ) Q := by
  obtain ⟨hl1, hl2⟩ := hc.b 16 (b := 200) (by decide)
  refine CT.of rfl (Nat.le_of_ble_eq_true rfl) ?_
  refine x_iconst (v := -1) dX12_lastOf_0 (by decide) ?_
  refine x_istore_n dX12_lastOf_1 rfl (by decide) ?_
  refine x_iconst (v := 0) dX12_lastOf_2 (by decide) ?_
  refine x_istore dX12_lastOf_3 (by decide) ?_
  refine x_loc [(0, .ref (ad 99)), (1, .int p), (2, .int q), (3, .int (spLast σ p q 0)), (4, .int (nI 0))] ⟨rfl, rfl, rfl, rfl, rfl, trivial⟩ ?_
  refine loop_up (P := fun i => XJ G d (0, 0) MX12_lastOf (mm ad σ) [(0, .ref (ad 99)), (1, .int p), (2, .int q), (3, .int (spLast σ p q i)), (4, .int (nI i))] [] 5 Q) (n := cn σ 16) ?_ ?_ 0 (Nat.zero_le _)
  · refine x_iload dX12_lastOf_5 rfl ?_
    refine x_aload_n dX12_lastOf_7 rfl rfl ?_
    refine xm_geti dX12_lastOf_8 lf_X12_152 vmi_16 ?_
    refine x_icmp_ge (tgt := 66) dX12_lastOf_11 (by decide) (fun _ => ?_) (fun z => absurd (loopT hl1) z)
    refine x_iload_n dX12_lastOf_66 rfl rfl ?_
    exact x_ireturn dX12_lastOf_67 rfl rfl (hq)
  · intro i hlt ih
    have hin : vp_in (nI i) 200 := vp_in_nI (by omega) (by decide)
    have hcl : (nI i).toNatClampNeg = i := nI_clamp (by omega)
    refine x_iload dX12_lastOf_5 rfl ?_
    refine x_aload_n dX12_lastOf_7 rfl rfl ?_
    refine xm_geti dX12_lastOf_8 lf_X12_152 vmi_16 ?_
    refine x_icmp_ge (tgt := 66) dX12_lastOf_11 (by decide) (fun z => absurd z (loopF hl1 hlt (by omega))) (fun _ => ?_)
    refine x_aload_n dX12_lastOf_14 rfl rfl ?_
    refine xm_geta dX12_lastOf_15 lf_X12_28 vma_8 ?_
    refine x_iload dX12_lastOf_18 rfl ?_
    refine xm_iald 8 dX12_lastOf_20 mf_8 hi hin hcl ?_
    refine x_iload_n dX12_lastOf_21 rfl rfl ?_
    refine x_icmp_ne (tgt := 60) dX12_lastOf_22 (by decide) (fun h22 => ?_) (fun h22 => ?_)
    · refine x_iinc (c := 1) dX12_lastOf_60 rfl (by decide) ?_
      refine x_goto (tgt := 5) dX12_lastOf_63 (by decide) ?_
      refine x_loc _ (?_ : lle _ _) ih
      refine ⟨rfl, rfl, rfl, ?_, ?_, trivial⟩
      · show some (Value.int _) = some (Value.int (if σ.2 8 i = p ∧ σ.2 14 i ≤ q ∧ (spLast σ p q i = -1 ∨ σ.2 9 (spLast σ p q i).toNatClampNeg ≤ σ.2 9 i) then nI i else spLast σ p q i))
        clear ih hq; grind
      · show some (Value.int _) = some (Value.int (nI (i + 1)))
        rw [← nI_1]
    · refine x_aload_n dX12_lastOf_25 rfl rfl ?_
      refine xm_geta dX12_lastOf_26 lf_X12_46 vma_14 ?_
      refine x_iload dX12_lastOf_29 rfl ?_
      refine xm_iald 14 dX12_lastOf_31 mf_14 hi hin hcl ?_
      refine x_iload_n dX12_lastOf_32 rfl rfl ?_
      refine x_icmp_gt (tgt := 60) dX12_lastOf_33 (by decide) (fun h33 => ?_) (fun h33 => ?_)
      · refine x_iinc (c := 1) dX12_lastOf_60 rfl (by decide) ?_
        refine x_goto (tgt := 5) dX12_lastOf_63 (by decide) ?_
        refine x_loc _ (?_ : lle _ _) ih
        refine ⟨rfl, rfl, rfl, ?_, ?_, trivial⟩
        · show some (Value.int _) = some (Value.int (if σ.2 8 i = p ∧ σ.2 14 i ≤ q ∧ (spLast σ p q i = -1 ∨ σ.2 9 (spLast σ p q i).toNatClampNeg ≤ σ.2 9 i) then nI i else spLast σ p q i))
          clear ih hq; grind
        · show some (Value.int _) = some (Value.int (nI (i + 1)))
          rw [← nI_1]
      · refine x_iload_n dX12_lastOf_36 rfl rfl ?_
        refine x_iconst (v := -1) dX12_lastOf_37 (by decide) ?_
        refine x_icmp_eq (tgt := 57) dX12_lastOf_38 (by decide) (fun h38 => ?_) (fun h38 => ?_)
        · refine x_iload dX12_lastOf_57 rfl ?_
          refine x_istore_n dX12_lastOf_59 rfl (by decide) ?_
          refine x_iinc (c := 1) dX12_lastOf_60 rfl (by decide) ?_
          refine x_goto (tgt := 5) dX12_lastOf_63 (by decide) ?_
          refine x_loc _ (?_ : lle _ _) ih
          refine ⟨rfl, rfl, rfl, ?_, ?_, trivial⟩
          · show some (Value.int _) = some (Value.int (if σ.2 8 i = p ∧ σ.2 14 i ≤ q ∧ (spLast σ p q i = -1 ∨ σ.2 9 (spLast σ p q i).toNatClampNeg ≤ σ.2 9 i) then nI i else spLast σ p q i))
            clear ih hq; grind
          · show some (Value.int _) = some (Value.int (nI (i + 1)))
            rw [← nI_1]
        · have hin2 : vp_in (spLast σ p q i) 200 := by
            rcases spLast_cases (σ := σ) (p := p) (q := q) i with h | ⟨j, h1, h2⟩
            · exact absurd h h38
            · rw [h2]; exact vp_in_nI (by omega) (by decide)
          refine x_aload_n dX12_lastOf_41 rfl rfl ?_
          refine xm_geta dX12_lastOf_42 lf_X12_31 vma_9 ?_
          refine x_iload dX12_lastOf_45 rfl ?_
          refine xm_iald 9 dX12_lastOf_47 mf_9 hi hin hcl ?_
          refine x_aload_n dX12_lastOf_48 rfl rfl ?_
          refine xm_geta dX12_lastOf_49 lf_X12_31 vma_9 ?_
          refine x_iload_n dX12_lastOf_52 rfl rfl ?_
          refine xm_iald 9 dX12_lastOf_53 mf_9 hi hin2 rfl ?_
          refine x_icmp_lt (tgt := 60) dX12_lastOf_54 (by decide) (fun h54 => ?_) (fun h54 => ?_)
          · refine x_iinc (c := 1) dX12_lastOf_60 rfl (by decide) ?_
            refine x_goto (tgt := 5) dX12_lastOf_63 (by decide) ?_
            refine x_loc _ (?_ : lle _ _) ih
            refine ⟨rfl, rfl, rfl, ?_, ?_, trivial⟩
            · show some (Value.int _) = some (Value.int (if σ.2 8 i = p ∧ σ.2 14 i ≤ q ∧ (spLast σ p q i = -1 ∨ σ.2 9 (spLast σ p q i).toNatClampNeg ≤ σ.2 9 i) then nI i else spLast σ p q i))
              clear ih hq; grind
            · show some (Value.int _) = some (Value.int (nI (i + 1)))
              rw [← nI_1]
          · refine x_iload dX12_lastOf_57 rfl ?_
            refine x_istore_n dX12_lastOf_59 rfl (by decide) ?_
            refine x_iinc (c := 1) dX12_lastOf_60 rfl (by decide) ?_
            refine x_goto (tgt := 5) dX12_lastOf_63 (by decide) ?_
            refine x_loc _ (?_ : lle _ _) ih
            refine ⟨rfl, rfl, rfl, ?_, ?_, trivial⟩
            · show some (Value.int _) = some (Value.int (if σ.2 8 i = p ∧ σ.2 14 i ≤ q ∧ (spLast σ p q i = -1 ∨ σ.2 9 (spLast σ p q i).toNatClampNeg ≤ σ.2 9 i) then nI i else spLast σ p q i))
              clear ih hq; grind
            · show some (Value.int _) = some (Value.int (nI (i + 1)))
              rw [← nI_1]
theorem c_X12_last {p q : Int32} (hi : adOK ad) (h0 : seti σ 0 0 = σ0) (hc : Cnt σ0) (hq : Q (some (.int (aLast σ0 p q))) (mm ad σ0)) : CT G (d + 2) (0, 0) MX12_last [.ref (ad 99), .int p, .int q] (mm ad σ) Q := by
  refine CT.of rfl (Nat.le_of_ble_eq_true rfl) ?_
  refine x_aload_n dX12_last_0 rfl rfl ?_
  refine x_iconst (v := 0) dX12_last_1 (by decide) ?_
  refine xm_puti dX12_last_2 lp_X12_138 vmq_0 vmn_0 vmf_0 ?_
  rw [h0]
  refine x_aload_n dX12_last_5 rfl rfl ?_
  refine x_iload_n dX12_last_6 rfl rfl ?_
  refine x_cV1 dX12_last_7 lv_X12_165 mm_obj rfl rfl rfl  (c_X12_isPerson ?_)
  refine x_if_eq_b (tgt := 30) dX12_last_10 (by decide) (fun h10 => ?_) (fun h10 => ?_)
  · refine x_iconst (v := -1) dX12_last_30 (by decide) ?_
    exact x_ireturn dX12_last_31 rfl rfl (by first | exact fan_t hq ⟨h10, h18⟩ | exact fan_f hq (fun z => h10 z.1) | exact fan_f hq (fun z => h18 z.2))
  · refine x_aload_n dX12_last_13 rfl rfl ?_
    refine x_iload_n dX12_last_14 rfl rfl ?_
    refine x_cV1 dX12_last_15 lv_X12_159 mm_obj rfl rfl rfl  (c_X12_isKnown ?_)
    refine x_if_eq_b (tgt := 30) dX12_last_18 (by decide) (fun h18 => ?_) (fun h18 => ?_)
    · refine x_iconst (v := -1) dX12_last_30 (by decide) ?_
      exact x_ireturn dX12_last_31 rfl rfl (by first | exact fan_t hq ⟨h10, h18⟩ | exact fan_f hq (fun z => h10 z.1) | exact fan_f hq (fun z => h18 z.2))
    · refine x_aload_n dX12_last_21 rfl rfl ?_
      refine x_iload_n dX12_last_22 rfl rfl ?_
      refine x_iload_n dX12_last_23 rfl rfl ?_
      refine x_cV2 dX12_last_24 lv_X12_363 mm_obj rfl rfl rfl  (c_X12_lastOf hi hc ?_)
      refine x_goto (tgt := 31) dX12_last_27 (by decide) ?_
      exact x_ireturn dX12_last_31 rfl rfl (by first | exact fan_t hq ⟨h10, h18⟩ | exact fan_f hq (fun z => h10 z.1) | exact fan_f hq (fun z => h18 z.2))
theorem c_X12_isStopped {p q : Int32} (hi : adOK ad) (hc : Cnt σ) (hq : Q (some (.int (bI (isG σ p q q)))) (mm ad σ)) : CT G (d + 1) (0, 0) MX12_isStopped [.ref (ad 99), .int p, .int q] (mm ad σ) Q := by
  refine CT.of rfl (Nat.le_of_ble_eq_true rfl) ?_
  refine x_aload_n dX12_isStopped_0 rfl rfl ?_
  refine x_iload_n dX12_isStopped_1 rfl rfl ?_
  refine x_iload_n dX12_isStopped_2 rfl rfl ?_
  refine x_cV2 dX12_isStopped_3 lv_X12_171 mm_obj rfl rfl rfl  (c_X12_stopsFrom hi hc ?_)
  refine x_istore_n dX12_isStopped_6 rfl (by decide) ?_
  refine x_iload_n dX12_isStopped_7 rfl rfl ?_
  refine x_iconst (v := -1) dX12_isStopped_8 (by decide) ?_
  refine x_icmp_eq (tgt := 21) dX12_isStopped_9 (by decide) (fun h9 => ?_) (fun h9 => ?_)
  · refine x_iconst (v := 0) dX12_isStopped_21 (by decide) ?_
    exact x_ireturn dX12_isStopped_22 rfl rfl (fin hq (by first | exact bI_t ⟨h9, Int32.not_lt.mp h14⟩ | exact bI_f (fun z => z.1 h9) | exact bI_f (fun z => absurd h14 (Int32.not_lt.mpr z.2))))
  · refine x_iload_n dX12_isStopped_12 rfl rfl ?_
    refine x_iload_n dX12_isStopped_13 rfl rfl ?_
    refine x_icmp_gt (tgt := 21) dX12_isStopped_14 (by decide) (fun h14 => ?_) (fun h14 => ?_)
    · refine x_iconst (v := 0) dX12_isStopped_21 (by decide) ?_
      exact x_ireturn dX12_isStopped_22 rfl rfl (fin hq (by first | exact bI_t ⟨h9, Int32.not_lt.mp h14⟩ | exact bI_f (fun z => z.1 h9) | exact bI_f (fun z => absurd h14 (Int32.not_lt.mpr z.2))))
    · refine x_iconst (v := 1) dX12_isStopped_17 (by decide) ?_
      refine x_goto (tgt := 22) dX12_isStopped_18 (by decide) ?_
      exact x_ireturn dX12_isStopped_22 rfl rfl (fin hq (by first | exact bI_t ⟨h9, Int32.not_lt.mp h14⟩ | exact bI_f (fun z => z.1 h9) | exact bI_f (fun z => absurd h14 (Int32.not_lt.mpr z.2))))
theorem c_X12_watcher {a b : Int32} (hi : adOK ad) (h0 : seti σ 0 0 = σ0) (hc : Cnt σ0) (hq : Q (some (.int (aWatch σ0 a b))) (mm ad (nWatch σ0 a b))) : CT G (d + 1) (0, 0) MX12_watcher [.ref (ad 99), .int a, .int b] (mm ad σ) Q := by
  obtain ⟨hl1, hl2⟩ := hc.b 59 (b := 4) (by decide)
  refine CT.of rfl (Nat.le_of_ble_eq_true rfl) ?_
  refine x_aload_n dX12_watcher_0 rfl rfl ?_
  refine x_iconst (v := 0) dX12_watcher_1 (by decide) ?_
  refine xm_puti dX12_watcher_2 lp_X12_138 vmq_0 vmn_0 vmf_0 ?_
  rw [h0]
  refine x_aload_n dX12_watcher_5 rfl rfl ?_
  refine xm_geti dX12_watcher_6 lf_X12_369 vmi_59 ?_
  refine x_iconst (v := 4) dX12_watcher_9 (by decide) ?_
  refine x_icmp_eq (tgt := 33) dX12_watcher_10 (by decide) (fun h10 => ?_) (fun h10 => ?_)
  · refine x_iconst (v := -1) dX12_watcher_33 (by decide) ?_
    exact x_ireturn dX12_watcher_34 rfl rfl (fin_f (m := mm ad) hq (fun z => by first | exact z.1 h10 | exact h20 z.2.1 | exact h30 z.2.2))
  · refine x_iload_n dX12_watcher_13 rfl rfl ?_
    refine x_iconst (v := 0) dX12_watcher_14 (by decide) ?_
    refine x_bipush (v := 23) dX12_watcher_15 (by decide) ?_
    refine x_cS3 dX12_watcher_17 ls_X12_145 rfl  (c_X12_isIn ?_)
    refine x_if_eq_b (tgt := 33) dX12_watcher_20 (by decide) (fun h20 => ?_) (fun h20 => ?_)
    · refine x_iconst (v := -1) dX12_watcher_33 (by decide) ?_
      exact x_ireturn dX12_watcher_34 rfl rfl (fin_f (m := mm ad) hq (fun z => by first | exact z.1 h10 | exact h20 z.2.1 | exact h30 z.2.2))
    · refine x_iload_n dX12_watcher_23 rfl rfl ?_
      refine x_iload_n dX12_watcher_24 rfl rfl ?_
      refine x_bipush (v := 23) dX12_watcher_25 (by decide) ?_
      refine x_cS3 dX12_watcher_27 ls_X12_145 rfl  (c_X12_isIn ?_)
      refine x_if_ne_b (tgt := 35) dX12_watcher_30 (by decide) (fun h30 => ?_) (fun h30 => ?_)
      · have hin := in_cnt hl1 hl2 (v := 4) rfl h10 (by decide)
        refine x_aload_n dX12_watcher_35 rfl rfl ?_
        refine xm_geta dX12_watcher_36 lf_X12_111 vma_53 ?_
        refine x_aload_n dX12_watcher_39 rfl rfl ?_
        refine xm_geti dX12_watcher_40 lf_X12_369 vmi_59 ?_
        refine x_iload_n dX12_watcher_43 rfl rfl ?_
        refine xm_iast 53 dX12_watcher_44 mf_53 hi hin rfl ?_
        refine x_aload_n dX12_watcher_45 rfl rfl ?_
        refine xm_geta dX12_watcher_46 lf_X12_114 vma_54 ?_
        refine x_aload_n dX12_watcher_49 rfl rfl ?_
        refine xm_geti dX12_watcher_50 lf_X12_369 vmi_59 ?_
        refine x_iload_n dX12_watcher_53 rfl rfl ?_
        refine xm_iast 54 dX12_watcher_54 mf_54 hi hin rfl ?_
        refine x_aload_n dX12_watcher_55 rfl rfl ?_
        refine x_dup dX12_watcher_56 rfl ?_
        refine xm_geti dX12_watcher_57 lf_X12_369 vmi_59 ?_
        refine x_iconst (v := 1) dX12_watcher_60 (by decide) ?_
        refine x_iadd dX12_watcher_61 ?_
        refine xm_puti dX12_watcher_62 lp_X12_369 vmq_59 vmn_59 vmf_59 ?_
        refine x_aload_n dX12_watcher_65 rfl rfl ?_
        refine xm_geti dX12_watcher_66 lf_X12_369 vmi_59 ?_
        refine x_iconst (v := 1) dX12_watcher_69 (by decide) ?_
        refine x_isub dX12_watcher_70 ?_
        exact x_ireturn dX12_watcher_71 rfl rfl (fin_t (m := mm ad) hq ⟨h10, h20, h30⟩ (add_sub1 _).symm)
      · refine x_iconst (v := -1) dX12_watcher_33 (by decide) ?_
        exact x_ireturn dX12_watcher_34 rfl rfl (fin_f (m := mm ad) hq (fun z => by first | exact z.1 h10 | exact h20 z.2.1 | exact h30 z.2.2))
theorem c_X12_want {a b : Int32} (hi : adOK ad) (h0 : seti σ 0 0 = σ0) (hc : Cnt σ0) (hq : Q (some (.int (aWant σ0 a b))) (mm ad (nWant σ0 a b))) : CT G (d + 1) (0, 0) MX12_want [.ref (ad 99), .int a, .int b] (mm ad σ) Q := by
  obtain ⟨hl1, hl2⟩ := hc.b 60 (b := 8) (by decide)
  refine CT.of rfl (Nat.le_of_ble_eq_true rfl) ?_
  refine x_aload_n dX12_want_0 rfl rfl ?_
  refine x_iconst (v := 0) dX12_want_1 (by decide) ?_
  refine xm_puti dX12_want_2 lp_X12_138 vmq_0 vmn_0 vmf_0 ?_
  rw [h0]
  refine x_aload_n dX12_want_5 rfl rfl ?_
  refine xm_geti dX12_want_6 lf_X12_372 vmi_60 ?_
  refine x_bipush (v := 8) dX12_want_9 (by decide) ?_
  refine x_icmp_eq (tgt := 34) dX12_want_11 (by decide) (fun h11 => ?_) (fun h11 => ?_)
  · refine x_iconst (v := -1) dX12_want_34 (by decide) ?_
    exact x_ireturn dX12_want_35 rfl rfl (fin_f (m := mm ad) hq (fun z => by first | exact z.1 h11 | exact h21 z.2.1 | exact h31 z.2.2))
  · refine x_iload_n dX12_want_14 rfl rfl ?_
    refine x_iconst (v := 0) dX12_want_15 (by decide) ?_
    refine x_bipush (v := 7) dX12_want_16 (by decide) ?_
    refine x_cS3 dX12_want_18 ls_X12_145 rfl  (c_X12_isIn ?_)
    refine x_if_eq_b (tgt := 34) dX12_want_21 (by decide) (fun h21 => ?_) (fun h21 => ?_)
    · refine x_iconst (v := -1) dX12_want_34 (by decide) ?_
      exact x_ireturn dX12_want_35 rfl rfl (fin_f (m := mm ad) hq (fun z => by first | exact z.1 h11 | exact h21 z.2.1 | exact h31 z.2.2))
    · refine x_iload_n dX12_want_24 rfl rfl ?_
      refine x_iconst (v := 0) dX12_want_25 (by decide) ?_
      refine x_bipush (v := 23) dX12_want_26 (by decide) ?_
      refine x_cS3 dX12_want_28 ls_X12_145 rfl  (c_X12_isIn ?_)
      refine x_if_ne_b (tgt := 36) dX12_want_31 (by decide) (fun h31 => ?_) (fun h31 => ?_)
      · have hin := in_cnt hl1 hl2 (v := 8) rfl h11 (by decide)
        refine x_aload_n dX12_want_36 rfl rfl ?_
        refine xm_geta dX12_want_37 lf_X12_117 vma_55 ?_
        refine x_aload_n dX12_want_40 rfl rfl ?_
        refine xm_geti dX12_want_41 lf_X12_372 vmi_60 ?_
        refine x_iload_n dX12_want_44 rfl rfl ?_
        refine xm_iast 55 dX12_want_45 mf_55 hi hin rfl ?_
        refine x_aload_n dX12_want_46 rfl rfl ?_
        refine xm_geta dX12_want_47 lf_X12_120 vma_56 ?_
        refine x_aload_n dX12_want_50 rfl rfl ?_
        refine xm_geti dX12_want_51 lf_X12_372 vmi_60 ?_
        refine x_iload_n dX12_want_54 rfl rfl ?_
        refine xm_iast 56 dX12_want_55 mf_56 hi hin rfl ?_
        refine x_aload_n dX12_want_56 rfl rfl ?_
        refine x_dup dX12_want_57 rfl ?_
        refine xm_geti dX12_want_58 lf_X12_372 vmi_60 ?_
        refine x_iconst (v := 1) dX12_want_61 (by decide) ?_
        refine x_iadd dX12_want_62 ?_
        refine xm_puti dX12_want_63 lp_X12_372 vmq_60 vmn_60 vmf_60 ?_
        refine x_aload_n dX12_want_66 rfl rfl ?_
        refine xm_geti dX12_want_67 lf_X12_372 vmi_60 ?_
        refine x_iconst (v := 1) dX12_want_70 (by decide) ?_
        refine x_isub dX12_want_71 ?_
        exact x_ireturn dX12_want_72 rfl rfl (fin_t (m := mm ad) hq ⟨h11, h21, h31⟩ (add_sub1 _).symm)
      · refine x_iconst (v := -1) dX12_want_34 (by decide) ?_
        exact x_ireturn dX12_want_35 rfl rfl (fin_f (m := mm ad) hq (fun z => by first | exact z.1 h11 | exact h21 z.2.1 | exact h31 z.2.2))
theorem c_X12_question {a b : Int32} (hi : adOK ad) (h0 : seti σ 0 0 = σ0) (hc : Cnt σ0) (hq : Q (some (.int (aQuest σ0 a b))) (mm ad (nQuest σ0 a b))) : CT G (d + 1) (0, 0) MX12_question [.ref (ad 99), .int a, .int b] (mm ad σ) Q := by
  obtain ⟨hl1, hl2⟩ := hc.b 65 (b := 8) (by decide)
  refine CT.of rfl (Nat.le_of_ble_eq_true rfl) ?_
  refine x_aload_n dX12_question_0 rfl rfl ?_
  refine x_iconst (v := 0) dX12_question_1 (by decide) ?_
  refine xm_puti dX12_question_2 lp_X12_138 vmq_0 vmn_0 vmf_0 ?_
  rw [h0]
  refine x_aload_n dX12_question_5 rfl rfl ?_
  refine xm_geti dX12_question_6 lf_X12_393 vmi_65 ?_
  refine x_bipush (v := 8) dX12_question_9 (by decide) ?_
  refine x_icmp_eq (tgt := 35) dX12_question_11 (by decide) (fun h11 => ?_) (fun h11 => ?_)
  · refine x_iconst (v := -1) dX12_question_35 (by decide) ?_
    exact x_ireturn dX12_question_36 rfl rfl (fin_f (m := mm ad) hq (fun z => by first | exact z.1 h11 | exact h21 z.2.1 | exact h32 z.2.2))
  · refine x_iload_n dX12_question_14 rfl rfl ?_
    refine x_iconst (v := 1) dX12_question_15 (by decide) ?_
    refine x_bipush (v := 50) dX12_question_16 (by decide) ?_
    refine x_cS3 dX12_question_18 ls_X12_145 rfl  (c_X12_isIn ?_)
    refine x_if_eq_b (tgt := 35) dX12_question_21 (by decide) (fun h21 => ?_) (fun h21 => ?_)
    · refine x_iconst (v := -1) dX12_question_35 (by decide) ?_
      exact x_ireturn dX12_question_36 rfl rfl (fin_f (m := mm ad) hq (fun z => by first | exact z.1 h11 | exact h21 z.2.1 | exact h32 z.2.2))
    · refine x_iload_n dX12_question_24 rfl rfl ?_
      refine x_iconst (v := 0) dX12_question_25 (by decide) ?_
      refine x_sipush (v := 1023) dX12_question_26 (by decide) ?_
      refine x_cS3 dX12_question_29 ls_X12_145 rfl  (c_X12_isIn ?_)
      refine x_if_ne_b (tgt := 37) dX12_question_32 (by decide) (fun h32 => ?_) (fun h32 => ?_)
      · have hin := in_cnt hl1 hl2 (v := 8) rfl h11 (by decide)
        refine x_aload_n dX12_question_37 rfl rfl ?_
        refine xm_geta dX12_question_38 lf_X12_129 vma_62 ?_
        refine x_aload_n dX12_question_41 rfl rfl ?_
        refine xm_geti dX12_question_42 lf_X12_393 vmi_65 ?_
        refine x_iload_n dX12_question_45 rfl rfl ?_
        refine xm_iast 62 dX12_question_46 mf_62 hi hin rfl ?_
        refine x_aload_n dX12_question_47 rfl rfl ?_
        refine xm_geta dX12_question_48 lf_X12_132 vma_63 ?_
        refine x_aload_n dX12_question_51 rfl rfl ?_
        refine xm_geti dX12_question_52 lf_X12_393 vmi_65 ?_
        refine x_iload_n dX12_question_55 rfl rfl ?_
        refine xm_iast 63 dX12_question_56 mf_63 hi hin rfl ?_
        refine x_aload_n dX12_question_57 rfl rfl ?_
        refine x_dup dX12_question_58 rfl ?_
        refine xm_geti dX12_question_59 lf_X12_393 vmi_65 ?_
        refine x_iconst (v := 1) dX12_question_62 (by decide) ?_
        refine x_iadd dX12_question_63 ?_
        refine xm_puti dX12_question_64 lp_X12_393 vmq_65 vmn_65 vmf_65 ?_
        refine x_aload_n dX12_question_67 rfl rfl ?_
        refine xm_geti dX12_question_68 lf_X12_393 vmi_65 ?_
        refine x_iconst (v := 1) dX12_question_71 (by decide) ?_
        refine x_isub dX12_question_72 ?_
        exact x_ireturn dX12_question_73 rfl rfl (fin_t (m := mm ad) hq ⟨h11, h21, h32⟩ (add_sub1 _).symm)
      · refine x_iconst (v := -1) dX12_question_35 (by decide) ?_
        exact x_ireturn dX12_question_36 rfl rfl (fin_f (m := mm ad) hq (fun z => by first | exact z.1 h11 | exact h21 z.2.1 | exact h32 z.2.2))
end MDB2
