/-! the model's methods, 1: bounds, days, persons, stops, lines -/ -- x -- y -- y
section MDA
variable {G : Gam} {d : Nat} {k : Nat × Nat} {ad : Nat → Nat} {σ : MS} {M : Mem} {Q : Option Value → Mem → Prop}
theorem c_X12_person {a b c : Int32} (hi : adOK ad) (hc : Cnt σ) (hq : Q (some (.int (aPerson σ a b c))) (mm ad (nPerson σ a b c))) : CT G (d + 1) (0, 0) MX12_person [.ref (ad 99), .int a, .int b, .int c] (mm ad σ) Q := by
  obtain ⟨hl1, hl2⟩ := hc.b 15 (b := 24) (by decide)
  unfold aPerson nPerson at hq
  refine CT.of rfl (Nat.le_of_ble_eq_true rfl) ?_
  refine x_aload_n dX12_person_0 rfl rfl ?_
  refine x_iconst (v := 0) dX12_person_1 (by decide) ?_
  refine xm_puti dX12_person_2 lp_X12_138 vmq_0 vmn_0 vmf_0 ?_
  refine x_aload_n dX12_person_5 rfl rfl ?_
  refine xm_geti dX12_person_6 lf_X12_149 vmi_15 ?_
  refine x_bipush (v := 24) dX12_person_9 (by decide) ?_
  refine x_icmp_eq (tgt := 45) dX12_person_11 (by decide) (fun h11 => ?_) (fun h11 => ?_)
  · refine x_iconst (v := -1) dX12_person_45 (by decide) ?_
    refine x_ireturn dX12_person_46 rfl rfl ?_
    have hn : ¬ pPerson σ a b c := by rintro ⟨z1, z2, z3, z4⟩; first | exact z1 h11 | exact h21 z2 | exact h32 z3 | exact h42 z4
    rw [cI_f hn, cI_f hn] at hq; exact hq
  · refine x_iload_n dX12_person_14 rfl rfl ?_
    refine x_iconst (v := 0) dX12_person_15 (by decide) ?_
    refine x_bipush (v := 7) dX12_person_16 (by decide) ?_
    refine x_cS3 dX12_person_18 ls_X12_145 rfl  (c_X12_isIn ?_)
    refine x_if_eq_b (tgt := 45) dX12_person_21 (by decide) (fun h21 => ?_) (fun h21 => ?_)
    · refine x_iconst (v := -1) dX12_person_45 (by decide) ?_
      refine x_ireturn dX12_person_46 rfl rfl ?_
      have hn : ¬ pPerson σ a b c := by rintro ⟨z1, z2, z3, z4⟩; first | exact z1 h11 | exact h21 z2 | exact h32 z3 | exact h42 z4
      rw [cI_f hn, cI_f hn] at hq; exact hq
    · refine x_iload_n dX12_person_24 rfl rfl ?_
      refine x_bipush (v := 10) dX12_person_25 (by decide) ?_
      refine x_bipush (v := 99) dX12_person_27 (by decide) ?_
      refine x_cS3 dX12_person_29 ls_X12_145 rfl  (c_X12_isIn ?_)
      refine x_if_eq_b (tgt := 45) dX12_person_32 (by decide) (fun h32 => ?_) (fun h32 => ?_)
      · refine x_iconst (v := -1) dX12_person_45 (by decide) ?_
        refine x_ireturn dX12_person_46 rfl rfl ?_
        have hn : ¬ pPerson σ a b c := by rintro ⟨z1, z2, z3, z4⟩; first | exact z1 h11 | exact h21 z2 | exact h32 z3 | exact h42 z4
        rw [cI_f hn, cI_f hn] at hq; exact hq
      · refine x_iload_n dX12_person_35 rfl rfl ?_
        refine x_iconst (v := 0) dX12_person_36 (by decide) ?_
        refine x_bipush (v := 7) dX12_person_37 (by decide) ?_
        refine x_cS3 dX12_person_39 ls_X12_145 rfl  (c_X12_isIn ?_)
        refine x_if_ne_b (tgt := 47) dX12_person_42 (by decide) (fun h42 => ?_) (fun h42 => ?_)
        · have hin : vp_in (σ.1 15) 24 := by rw [hl1]; exact vp_in_nI (by have : cn σ 15 ≠ 24 := fun z => h11 (by show σ.1 15 = 24; rw [hl1, z]; rfl); omega) (by decide)
          refine x_aload_n dX12_person_47 rfl rfl ?_
          refine xm_geta dX12_person_48 lf_X12_9 vma_2 ?_
          refine x_aload_n dX12_person_51 rfl rfl ?_
          refine xm_geti dX12_person_52 lf_X12_149 vmi_15 ?_
          refine x_iload_n dX12_person_55 rfl rfl ?_
          refine xm_iast 2 dX12_person_56 mf_2 hi hin rfl ?_
          refine x_aload_n dX12_person_57 rfl rfl ?_
          refine xm_geta dX12_person_58 lf_X12_13 vma_3 ?_
          refine x_aload_n dX12_person_61 rfl rfl ?_
          refine xm_geti dX12_person_62 lf_X12_149 vmi_15 ?_
          refine x_iload_n dX12_person_65 rfl rfl ?_
          refine xm_iast 3 dX12_person_66 mf_3 hi hin rfl ?_
          refine x_aload_n dX12_person_67 rfl rfl ?_
          refine xm_geta dX12_person_68 lf_X12_16 vma_4 ?_
          refine x_aload_n dX12_person_71 rfl rfl ?_
          refine xm_geti dX12_person_72 lf_X12_149 vmi_15 ?_
          refine x_iload_n dX12_person_75 rfl rfl ?_
          refine xm_iast 4 dX12_person_76 mf_4 hi hin rfl ?_
          refine x_aload_n dX12_person_77 rfl rfl ?_
          refine x_dup dX12_person_78 rfl ?_
          refine xm_geti dX12_person_79 lf_X12_149 vmi_15 ?_
          refine x_iconst (v := 1) dX12_person_82 (by decide) ?_
          refine x_iadd dX12_person_83 ?_
          refine xm_puti dX12_person_84 lp_X12_149 vmq_15 vmn_15 vmf_15 ?_
          refine x_aload_n dX12_person_87 rfl rfl ?_
          refine xm_geti dX12_person_88 lf_X12_149 vmi_15 ?_
          refine x_iconst (v := 1) dX12_person_91 (by decide) ?_
          refine x_isub dX12_person_92 ?_
          refine x_ireturn dX12_person_93 rfl rfl ?_
          have hn : pPerson σ a b c := ⟨h11, h21, h32, h42⟩
          rw [cI_t hn, cI_t hn] at hq
          refine fin hq ?_
          show _ = σ.1 15 + 1 - 1
          sorry
        · refine x_iconst (v := -1) dX12_person_45 (by decide) ?_
          refine x_ireturn dX12_person_46 rfl rfl ?_
          have hn : ¬ pPerson σ a b c := by rintro ⟨z1, z2, z3, z4⟩; first | exact z1 h11 | exact h21 z2 | exact h32 z3 | exact h42 z4
          rw [cI_f hn, cI_f hn] at hq; exact hq
end MDA
