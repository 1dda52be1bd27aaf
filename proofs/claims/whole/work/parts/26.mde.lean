/-! the model's methods, 5: the table of watchers -/
section MDE
variable {G : Gam} {d : Nat} {k : Nat × Nat} {ad : Nat → Nat} {σ σ0 : MS} {M : Mem} {Q : Option Value → Mem → Prop}
theorem c_X12_maySee {w one : Nat} {t : TT} (hi : adOK ad) (hc : Cnt σ) (hw : w < cn σ 59) (ho : one < cn σ 60) (hq : Q (some (.int (bI (mayS σ t.1 w one)))) (mm ad (wT σ t))) : CT G (d + 1) (0, 0) MX12_maySee [.ref (ad 99), .int (nI w), .int (nI one)] (mm ad (wT σ t)) Q := by
  obtain ⟨hw1, hw2⟩ := hc.b 59 (b := 4) (by decide)
  obtain ⟨ho1, ho2⟩ := hc.b 60 (b := 8) (by decide)
  have hinw : vp_in (nI w) 4 := vp_in_nI (by omega) (by decide)
  have hclw : (nI w).toNatClampNeg = w := nI_clamp (by omega)
  have hino : vp_in (nI one) 8 := vp_in_nI (by omega) (by decide)
  have hclo : (nI one).toNatClampNeg = one := nI_clamp (by omega)
  have hk : (∀ k, k < one → ¬ (t.1 k = nI w ∧ clash σ one k)) → (σ.2 53 w ≤ σ.2 56 one ∧ σ.2 56 one ≤ σ.2 54 w) → bI (mayS σ t.1 w one) = 1 := fun h1 h2 => bI_t ⟨h2, h1⟩
  refine CT.of rfl (Nat.le_of_ble_eq_true rfl) ?_
  refine x_aload_n dX12_maySee_0 rfl rfl ?_
  refine xm_geta dX12_maySee_1 lf_X12_120 vma_56 ?_
  refine x_iload_n dX12_maySee_4 rfl rfl ?_
  refine xm_iald 56 dX12_maySee_5 mf_56 hi hino hclo ?_
  refine x_aload_n dX12_maySee_6 rfl rfl ?_
  refine xm_geta dX12_maySee_7 lf_X12_111 vma_53 ?_
  refine x_iload_n dX12_maySee_10 rfl rfl ?_
  refine xm_iald 53 dX12_maySee_11 mf_53 hi hinw hclw ?_
  refine x_aload_n dX12_maySee_12 rfl rfl ?_
  refine xm_geta dX12_maySee_13 lf_X12_114 vma_54 ?_
  refine x_iload_n dX12_maySee_16 rfl rfl ?_
  refine xm_iald 54 dX12_maySee_17 mf_54 hi hinw hclw ?_
  refine x_cS3 dX12_maySee_18 ls_X12_145 rfl  (c_X12_isIn ?_)
  refine x_if_ne_b (tgt := 26) dX12_maySee_21 (by decide) (fun h21 => ?_) (fun h21 => ?_)
  · refine x_iconst (v := 0) dX12_maySee_26 (by decide) ?_
    refine x_istore_n dX12_maySee_27 rfl (by decide) ?_
    have hgoal : ∀ i, i ≤ one → (∀ k, k < i → ¬ (t.1 k = nI w ∧ clash σ one k)) → XJ G (d + 1) (0, 0) MX12_maySee (mm ad (wT σ t)) [(0, .ref (ad 99)), (1, .int (nI w)), (2, .int (nI one)), (3, .int (nI i))] [] 28 Q := by
      refine loop_up (P := fun i => (∀ k, k < i → ¬ (t.1 k = nI w ∧ clash σ one k)) → XJ G (d + 1) (0, 0) MX12_maySee (mm ad (wT σ t)) [(0, .ref (ad 99)), (1, .int (nI w)), (2, .int (nI one)), (3, .int (nI i))] [] 28 Q) ?_ ?_
      · intro hall
        refine x_iload_n dX12_maySee_28 rfl rfl ?_
        refine x_iload_n dX12_maySee_29 rfl rfl ?_
        refine x_icmp_ge (tgt := 95) dX12_maySee_30 (by decide) (fun _ => ?_) (fun z => absurd (Int32.le_refl _) z)
        refine x_iconst (v := 1) dX12_maySee_95 (by decide) ?_
        exact x_ireturn dX12_maySee_96 rfl rfl (fin hq (hk hall h21))
      · intro i hlt ih hall
        have hin : vp_in (nI i) 8 := vp_in_nI (by omega) (by decide)
        have hcl : (nI i).toNatClampNeg = i := nI_clamp (by omega)
        refine x_iload_n dX12_maySee_28 rfl rfl ?_
        refine x_iload_n dX12_maySee_29 rfl rfl ?_
        refine x_icmp_ge (tgt := 95) dX12_maySee_30 (by decide) (fun z => absurd z (Int32.not_le.mpr (nI_lt hlt (by omega)))) (fun _ => ?_)
        refine x_aload_n dX12_maySee_33 rfl rfl ?_
        refine xm_geta dX12_maySee_34 lf_X12_120 vma_56 ?_
        refine x_iload_n dX12_maySee_37 rfl rfl ?_
        refine xm_iald 56 dX12_maySee_38 mf_56 hi hino hclo ?_
        refine x_aload_n dX12_maySee_39 rfl rfl ?_
        refine xm_geta dX12_maySee_40 lf_X12_120 vma_56 ?_
        refine x_iload_n dX12_maySee_43 rfl rfl ?_
        refine xm_iald 56 dX12_maySee_44 mf_56 hi hin hcl ?_
        refine x_isub dX12_maySee_45 ?_
        refine x_cS1 dX12_maySee_46 ls_X12_323 rfl  (c_J9_abs_0f7a4 ?_)
        refine x_istore dX12_maySee_49 (by decide) ?_
        refine x_aload_n dX12_maySee_51 rfl rfl ?_
        refine xm_geta dX12_maySee_52 lf_X12_123 vma_57 ?_
        refine x_iload_n dX12_maySee_55 rfl rfl ?_
        refine xm_iald 57 dX12_maySee_56 mf_57 hi hin hcl ?_
        refine x_iload_n dX12_maySee_57 rfl rfl ?_
        refine x_icmp_ne (tgt := 89) dX12_maySee_58 (by decide) (fun h58 => ?_) (fun h58 => ?_)
        · refine x_iinc (c := 1) dX12_maySee_89 rfl (by decide) ?_
          refine x_goto (tgt := 28) dX12_maySee_92 (by decide) ?_
          refine x_loc _ (?_ : lle _ _) (ih (fun k hk2 => (Nat.lt_succ_iff_lt_or_eq.mp hk2).elim (hall k) (fun e => ?_)))
          · exact ⟨rfl, rfl, rfl, congrArg some (congrArg Value.int (nI_1 _)), trivial⟩
          · subst e
            rintro ⟨z1, z2⟩
            first
            | exact h58 z1
            | (rcases z2 with z2 | z2
               · exact h63 z2
               · first
                 | exact absurd z2.1 (Int32.not_lt.mpr h69)
                 | exact z2.2 h84)
        · refine x_iload dX12_maySee_61 rfl ?_
          refine x_if_eq (tgt := 87) dX12_maySee_63 (by decide) (fun h63 => ?_) (fun h63 => ?_)
          · refine x_iconst (v := 0) dX12_maySee_87 (by decide) ?_
            exact x_ireturn dX12_maySee_88 rfl rfl (fin hq (bI_f (fun z => z.2 i hlt ⟨h58, by first | exact Or.inl h63 | exact Or.inr ⟨Int32.not_le.mp h69, h84⟩⟩)))
          · refine x_iload dX12_maySee_66 rfl ?_
            refine x_iconst (v := 2) dX12_maySee_68 (by decide) ?_
            refine x_icmp_ge (tgt := 89) dX12_maySee_69 (by decide) (fun h69 => ?_) (fun h69 => ?_)
            · refine x_iinc (c := 1) dX12_maySee_89 rfl (by decide) ?_
              refine x_goto (tgt := 28) dX12_maySee_92 (by decide) ?_
              refine x_loc _ (?_ : lle _ _) (ih (fun k hk2 => (Nat.lt_succ_iff_lt_or_eq.mp hk2).elim (hall k) (fun e => ?_)))
              · exact ⟨rfl, rfl, rfl, congrArg some (congrArg Value.int (nI_1 _)), trivial⟩
              · subst e
                rintro ⟨z1, z2⟩
                first
                | exact h58 z1
                | (rcases z2 with z2 | z2
                   · exact h63 z2
                   · first
                     | exact absurd z2.1 (Int32.not_lt.mpr h69)
                     | exact z2.2 h84)
            · refine x_aload_n dX12_maySee_72 rfl rfl ?_
              refine xm_geta dX12_maySee_73 lf_X12_117 vma_55 ?_
              refine x_iload_n dX12_maySee_76 rfl rfl ?_
              refine xm_iald 55 dX12_maySee_77 mf_55 hi hino hclo ?_
              refine x_aload_n dX12_maySee_78 rfl rfl ?_
              refine xm_geta dX12_maySee_79 lf_X12_117 vma_55 ?_
              refine x_iload_n dX12_maySee_82 rfl rfl ?_
              refine xm_iald 55 dX12_maySee_83 mf_55 hi hin hcl ?_
              refine x_icmp_eq (tgt := 89) dX12_maySee_84 (by decide) (fun h84 => ?_) (fun h84 => ?_)
              · refine x_iinc (c := 1) dX12_maySee_89 rfl (by decide) ?_
                refine x_goto (tgt := 28) dX12_maySee_92 (by decide) ?_
                refine x_loc _ (?_ : lle _ _) (ih (fun k hk2 => (Nat.lt_succ_iff_lt_or_eq.mp hk2).elim (hall k) (fun e => ?_)))
                · exact ⟨rfl, rfl, rfl, congrArg some (congrArg Value.int (nI_1 _)), trivial⟩
                · subst e
                  rintro ⟨z1, z2⟩
                  first
                  | exact h58 z1
                  | (rcases z2 with z2 | z2
                     · exact h63 z2
                     · first
                       | exact absurd z2.1 (Int32.not_lt.mpr h69)
                       | exact z2.2 h84)
              · refine x_iconst (v := 0) dX12_maySee_87 (by decide) ?_
                exact x_ireturn dX12_maySee_88 rfl rfl (fin hq (bI_f (fun z => z.2 i hlt ⟨h58, by first | exact Or.inl h63 | exact Or.inr ⟨Int32.not_le.mp h69, h84⟩⟩)))
    exact x_loc [(0, .ref (ad 99)), (1, .int (nI w)), (2, .int (nI one)), (3, .int (nI 0))] ⟨rfl, rfl, rfl, rfl, trivial⟩ (hgoal 0 (Nat.zero_le _) (fun k h => absurd h (Nat.not_lt_zero k)))
  · refine x_iconst (v := 0) dX12_maySee_24 (by decide) ?_
    exact x_ireturn dX12_maySee_25 rfl rfl (fin hq (bI_f (fun z => h21 z.1)))
theorem c_X12_tryTable (hi : adOK ad) (hc : Cnt σ) : ∀ (f one seen : Nat) (t : TT) (Q : Option Value → Mem → Prop) (d : Nat), one + f = cn σ 60 → seen ≤ one → Q none (mm ad (wT σ (tryT σ f one seen t))) → CT G (d + f + 2) (0, 0) MX12_tryTable [.ref (ad 99), .int (nI one), .int (nI seen)] (mm ad (wT σ t)) Q := by
  obtain ⟨hw1, hw2⟩ := hc.b 59 (b := 4) (by decide)
  obtain ⟨ho1, ho2⟩ := hc.b 60 (b := 8) (by decide)
  intro f
  induction f with
  | zero =>
    intro one seen t Q d hf hs hq
    have hone : one = cn σ 60 := by omega
    refine CT.of rfl (Nat.le_of_ble_eq_true rfl) ?_
    refine x_iload_n dX12_tryTable_0 rfl rfl ?_
    refine x_aload_n dX12_tryTable_1 rfl rfl ?_
    refine xm_geti dX12_tryTable_2 lf_X12_372 vmi_60 ?_
    refine x_iadd dX12_tryTable_5 ?_
    refine x_iload_n dX12_tryTable_6 rfl rfl ?_
    refine x_isub dX12_tryTable_7 ?_
    refine x_aload_n dX12_tryTable_8 rfl rfl ?_
    refine xm_geti dX12_tryTable_9 lf_X12_375 vmi_61 ?_
    refine x_icmp_gt (tgt := 16) dX12_tryTable_12 (by decide) (fun h12 => ?_) (fun h12 => ?_)
    · refine x_iload_n dX12_tryTable_16 rfl rfl ?_
      refine x_aload_n dX12_tryTable_17 rfl rfl ?_
      refine xm_geti dX12_tryTable_18 lf_X12_372 vmi_60 ?_
      refine x_icmp_ne (tgt := 58) dX12_tryTable_21 (by decide) (fun z => absurd (show nI one = σ.1 60 by rw [hone]; exact ho1.symm) z) (fun _ => ?_)
      rw [show tryT σ 0 one seen t = (t.1, cpyN (cn σ 60) t.1 t.2.1, nI seen) from cI_f (Int32.not_le.mpr h12)] at hq
      refine x_aload_n dX12_tryTable_24 rfl rfl ?_
      refine x_iload_n dX12_tryTable_25 rfl rfl ?_
      refine xm_puti dX12_tryTable_26 lp_X12_375 vmq_61 vmn_61 vmf_61 ?_
      rw [wT_61]
      refine x_iconst (v := 0) dX12_tryTable_29 (by decide) ?_
      refine x_istore_n dX12_tryTable_30 rfl (by decide) ?_
      refine x_loc [(0, .ref (ad 99)), (1, .int (nI one)), (2, .int (nI seen)), (3, .int (nI 0))] ⟨rfl, rfl, rfl, rfl, trivial⟩ ?_
      refine loop_up (P := fun i => XJ G (d + 0 + 2) (0, 0) MX12_tryTable (mm ad (wT σ (t.1, cpyN i t.1 t.2.1, nI seen))) [(0, .ref (ad 99)), (1, .int (nI one)), (2, .int (nI seen)), (3, .int (nI i))] [] 31 Q) (n := cn σ 60) ?_ ?_ 0 (Nat.zero_le _)
      · refine x_iload_n dX12_tryTable_31 rfl rfl ?_
        refine x_aload_n dX12_tryTable_32 rfl rfl ?_
        refine xm_geti dX12_tryTable_33 lf_X12_372 vmi_60 ?_
        refine x_icmp_ge (tgt := 57) dX12_tryTable_36 (by decide) (fun _ => ?_) (fun z => absurd (loopT ho1) z)
        exact x_return dX12_tryTable_57 rfl (hq)
      · intro i hlt ih
        have hin : vp_in (nI i) 8 := vp_in_nI (by omega) (by decide)
        have hcl : (nI i).toNatClampNeg = i := nI_clamp (by omega)
        refine x_iload_n dX12_tryTable_31 rfl rfl ?_
        refine x_aload_n dX12_tryTable_32 rfl rfl ?_
        refine xm_geti dX12_tryTable_33 lf_X12_372 vmi_60 ?_
        refine x_icmp_ge (tgt := 57) dX12_tryTable_36 (by decide) (fun z => absurd z (loopF ho1 hlt (by omega))) (fun _ => ?_)
        refine x_aload_n dX12_tryTable_39 rfl rfl ?_
        refine xm_geta dX12_tryTable_40 lf_X12_126 vma_58 ?_
        refine x_iload_n dX12_tryTable_43 rfl rfl ?_
        refine x_aload_n dX12_tryTable_44 rfl rfl ?_
        refine xm_geta dX12_tryTable_45 lf_X12_123 vma_57 ?_
        refine x_iload_n dX12_tryTable_48 rfl rfl ?_
        refine xm_iald 57 dX12_tryTable_49 mf_57 hi hin hcl ?_
        refine xm_iast 58 dX12_tryTable_50 mf_58 hi hin hcl ?_
        rw [wT_58]
        refine x_iinc (c := 1) dX12_tryTable_51 rfl (by decide) ?_
        refine x_goto (tgt := 31) dX12_tryTable_54 (by decide) ?_
        refine x_loc _ (?_ : lle _ _) ih
        refine ⟨rfl, rfl, rfl, ?_, trivial⟩
        · show some (Value.int _) = some (Value.int (nI (i + 1)))
          rw [← nI_1]
    · exact x_return dX12_tryTable_15 rfl (by rw [show tryT σ 0 one seen t = t from cI_t (Int32.not_lt.mp h12)] at hq; exact hq)
  | succ f ihf =>
    intro one seen t Q d hf hs hq
    have hone : one < cn σ 60 := by omega
    have hinO : vp_in (nI one) 8 := vp_in_nI (by omega) (by decide)
    have hclO : (nI one).toNatClampNeg = one := nI_clamp (by omega)
    refine CT.of rfl (Nat.le_of_ble_eq_true rfl) ?_
    refine x_iload_n dX12_tryTable_0 rfl rfl ?_
    refine x_aload_n dX12_tryTable_1 rfl rfl ?_
    refine xm_geti dX12_tryTable_2 lf_X12_372 vmi_60 ?_
    refine x_iadd dX12_tryTable_5 ?_
    refine x_iload_n dX12_tryTable_6 rfl rfl ?_
    refine x_isub dX12_tryTable_7 ?_
    refine x_aload_n dX12_tryTable_8 rfl rfl ?_
    refine xm_geti dX12_tryTable_9 lf_X12_375 vmi_61 ?_
    refine x_icmp_gt (tgt := 16) dX12_tryTable_12 (by decide) (fun h12 => ?_) (fun h12 => ?_)
    · refine x_iload_n dX12_tryTable_16 rfl rfl ?_
      refine x_aload_n dX12_tryTable_17 rfl rfl ?_
      refine xm_geti dX12_tryTable_18 lf_X12_372 vmi_60 ?_
      refine x_icmp_ne (tgt := 58) dX12_tryTable_21 (by decide) (fun _ => ?_) (fun z => absurd z (show ¬ nI one = σ.1 60 by rw [ho1]; exact fun z => absurd ((nI_eq (by omega) (by omega)).mp z) (by omega)))
      rw [show tryT σ (f + 1) one seen t = tryT σ f (one + 1) seen (updB (fold (fun w s => cI (mayS σ s.1 w one) (tryT σ f (one + 1) (seen + 1) (updB s.1 one (nI w), s.2)) s) t (cn σ 59)).1 one (-1), (fold (fun w s => cI (mayS σ s.1 w one) (tryT σ f (one + 1) (seen + 1) (updB s.1 one (nI w), s.2)) s) t (cn σ 59)).2) from cI_f (Int32.not_le.mpr h12)] at hq
      refine x_iconst (v := 0) dX12_tryTable_58 (by decide) ?_
      refine x_istore_n dX12_tryTable_59 rfl (by decide) ?_
      refine x_loc [(0, .ref (ad 99)), (1, .int (nI one)), (2, .int (nI seen)), (3, .int (nI 0))] ⟨rfl, rfl, rfl, rfl, trivial⟩ ?_
      refine loop_up (P := fun w => XJ G (d + (f + 1) + 2) (0, 0) MX12_tryTable (mm ad (wT σ (fold (fun w s => cI (mayS σ s.1 w one) (tryT σ f (one + 1) (seen + 1) (updB s.1 one (nI w), s.2)) s) t w))) [(0, .ref (ad 99)), (1, .int (nI one)), (2, .int (nI seen)), (3, .int (nI w))] [] 60 Q) (n := cn σ 59) ?_ ?_ 0 (Nat.zero_le _)
      · refine x_iload_n dX12_tryTable_60 rfl rfl ?_
        refine x_aload_n dX12_tryTable_61 rfl rfl ?_
        refine xm_geti dX12_tryTable_62 lf_X12_369 vmi_59 ?_
        refine x_icmp_ge (tgt := 103) dX12_tryTable_65 (by decide) (fun _ => ?_) (fun z => absurd (loopT hw1) z)
        refine x_aload_n dX12_tryTable_103 rfl rfl ?_
        refine xm_geta dX12_tryTable_104 lf_X12_123 vma_57 ?_
        refine x_iload_n dX12_tryTable_107 rfl rfl ?_
        refine x_iconst (v := -1) dX12_tryTable_108 (by decide) ?_
        refine xm_iast 57 dX12_tryTable_109 mf_57 hi hinO hclO ?_
        rw [wT_57]
        refine x_aload_n dX12_tryTable_110 rfl rfl ?_
        refine x_iload_n dX12_tryTable_111 rfl rfl ?_
        refine x_iconst (v := 1) dX12_tryTable_112 (by decide) ?_
        refine x_iadd dX12_tryTable_113 ?_
        refine x_iload_n dX12_tryTable_114 rfl rfl ?_
        rw [nI_1]
        refine x_cV2 dX12_tryTable_115 lv_X12_381 mm_obj rfl rfl rfl  (ihf (one + 1) seen _ _ d (by omega) (by omega) ?_)
        exact x_return dX12_tryTable_118 rfl (hq)
      · intro w hlt ih
        have hst : fold (fun w s => cI (mayS σ s.1 w one) (tryT σ f (one + 1) (seen + 1) (updB s.1 one (nI w), s.2)) s) t (w + 1) = cI (mayS σ (fold (fun w s => cI (mayS σ s.1 w one) (tryT σ f (one + 1) (seen + 1) (updB s.1 one (nI w), s.2)) s) t w).1 w one) (tryT σ f (one + 1) (seen + 1) (updB (fold (fun w s => cI (mayS σ s.1 w one) (tryT σ f (one + 1) (seen + 1) (updB s.1 one (nI w), s.2)) s) t w).1 one (nI w), (fold (fun w s => cI (mayS σ s.1 w one) (tryT σ f (one + 1) (seen + 1) (updB s.1 one (nI w), s.2)) s) t w).2)) (fold (fun w s => cI (mayS σ s.1 w one) (tryT σ f (one + 1) (seen + 1) (updB s.1 one (nI w), s.2)) s) t w) := rfl
        rw [hst] at ih
        generalize fold (fun w s => cI (mayS σ s.1 w one) (tryT σ f (one + 1) (seen + 1) (updB s.1 one (nI w), s.2)) s) t w = tw at ih ⊢
        refine x_iload_n dX12_tryTable_60 rfl rfl ?_
        refine x_aload_n dX12_tryTable_61 rfl rfl ?_
        refine xm_geti dX12_tryTable_62 lf_X12_369 vmi_59 ?_
        refine x_icmp_ge (tgt := 103) dX12_tryTable_65 (by decide) (fun z => absurd z (loopF hw1 hlt (by omega))) (fun _ => ?_)
        refine x_aload_n dX12_tryTable_68 rfl rfl ?_
        refine x_iload_n dX12_tryTable_69 rfl rfl ?_
        refine x_iload_n dX12_tryTable_70 rfl rfl ?_
        refine x_cV2 dX12_tryTable_71 lv_X12_378 mm_obj rfl rfl rfl  (c_X12_maySee hi hc hlt hone ?_)
        refine x_if_ne_b (tgt := 80) dX12_tryTable_74 (by decide) (fun h74 => ?_) (fun h74 => ?_)
        · refine x_aload_n dX12_tryTable_80 rfl rfl ?_
          refine xm_geta dX12_tryTable_81 lf_X12_123 vma_57 ?_
          refine x_iload_n dX12_tryTable_84 rfl rfl ?_
          refine x_iload_n dX12_tryTable_85 rfl rfl ?_
          refine xm_iast 57 dX12_tryTable_86 mf_57 hi hinO hclO ?_
          rw [wT_57]
          refine x_aload_n dX12_tryTable_87 rfl rfl ?_
          refine x_iload_n dX12_tryTable_88 rfl rfl ?_
          refine x_iconst (v := 1) dX12_tryTable_89 (by decide) ?_
          refine x_iadd dX12_tryTable_90 ?_
          refine x_iload_n dX12_tryTable_91 rfl rfl ?_
          refine x_iconst (v := 1) dX12_tryTable_92 (by decide) ?_
          refine x_iadd dX12_tryTable_93 ?_
          rw [nI_1, nI_1]
          refine x_cV2 dX12_tryTable_94 lv_X12_381 mm_obj rfl rfl rfl  (ihf (one + 1) (seen + 1) _ _ d (by omega) (by omega) ?_)
          refine x_iinc (c := 1) dX12_tryTable_97 rfl (by decide) ?_
          refine x_goto (tgt := 60) dX12_tryTable_100 (by decide) ?_
          first
          | rw [cI_f h74] at ih
          | rw [cI_t h74] at ih
          refine x_loc _ (?_ : lle _ _) ih
          exact ⟨rfl, rfl, rfl, congrArg some (congrArg Value.int (nI_1 _)), trivial⟩
        · refine x_goto (tgt := 97) dX12_tryTable_77 (by decide) ?_
          refine x_iinc (c := 1) dX12_tryTable_97 rfl (by decide) ?_
          refine x_goto (tgt := 60) dX12_tryTable_100 (by decide) ?_
          first
          | rw [cI_f h74] at ih
          | rw [cI_t h74] at ih
          refine x_loc _ (?_ : lle _ _) ih
          exact ⟨rfl, rfl, rfl, congrArg some (congrArg Value.int (nI_1 _)), trivial⟩
    · exact x_return dX12_tryTable_15 rfl (by rw [show tryT σ (f + 1) one seen t = t from cI_t (Int32.not_lt.mp h12)] at hq; exact hq)
theorem c_X12_table {w : Int32} (hi : adOK ad) (h0 : seti σ 0 0 = σ0) (hc : Cnt σ0) (hq : ¬ (-1 ≤ w ∧ w ≤ σ0.1 60 - 1) → Q (some (.int (-2))) (mm ad σ0)) (hq2 : ∀ t, t = tryT σ0 (cn σ0 60) 0 0 (σ0.2 57, σ0.2 58, -1) → (-1 ≤ w ∧ w ≤ σ0.1 60 - 1) → Q (some (.int (if w = -1 then t.2.2 else t.2.1 w.toNatClampNeg))) (mm ad (wT σ0 t))) : CT G (d + cn σ0 60 + 3) (0, 0) MX12_table [.ref (ad 99), .int w] (mm ad σ) Q := by
  obtain ⟨ho1, ho2⟩ := hc.b 60 (b := 8) (by decide)
  refine CT.of rfl (Nat.le_of_ble_eq_true rfl) ?_
  refine x_aload_n dX12_table_0 rfl rfl ?_
  refine x_iconst (v := 0) dX12_table_1 (by decide) ?_
  refine xm_puti dX12_table_2 lp_X12_138 vmq_0 vmn_0 vmf_0 ?_
  rw [h0]
  refine x_iload_n dX12_table_5 rfl rfl ?_
  refine x_iconst (v := -1) dX12_table_6 (by decide) ?_
  refine x_aload_n dX12_table_7 rfl rfl ?_
  refine xm_geti dX12_table_8 lf_X12_372 vmi_60 ?_
  refine x_iconst (v := 1) dX12_table_11 (by decide) ?_
  refine x_isub dX12_table_12 ?_
  refine x_cS3 dX12_table_13 ls_X12_145 rfl  (c_X12_isIn ?_)
  refine x_if_ne_b (tgt := 22) dX12_table_16 (by decide) (fun h16 => ?_) (fun h16 => ?_)
  · refine x_aload_n dX12_table_22 rfl rfl ?_
    refine x_iconst (v := -1) dX12_table_23 (by decide) ?_
    refine xm_puti dX12_table_24 lp_X12_375 vmq_61 vmn_61 vmf_61 ?_
    rw [show seti σ0 61 (-1) = wT σ0 (σ0.2 57, σ0.2 58, -1) by have h := wT_61 (σ := σ0) (t := (σ0.2 57, σ0.2 58, σ0.1 61)) (v := -1); rw [wT_self] at h; exact h]
    refine x_aload_n dX12_table_27 rfl rfl ?_
    refine x_iconst (v := 0) dX12_table_28 (by decide) ?_
    refine x_iconst (v := 0) dX12_table_29 (by decide) ?_
    refine x_cV2 dX12_table_30 lv_X12_381 mm_obj rfl rfl rfl  (c_X12_tryTable hi hc (cn σ0 60) 0 0 (σ0.2 57, σ0.2 58, -1) _ d (by omega) (by omega) ?_)
    refine x_iload_n dX12_table_33 rfl rfl ?_
    refine x_iconst (v := -1) dX12_table_34 (by decide) ?_
    refine x_icmp_ne (tgt := 45) dX12_table_35 (by decide) (fun h35 => ?_) (fun h35 => ?_)
    · have hin : vp_in w 8 := by
        have h9 := h16.2
        have h8 := h16.1
        rw [vp_in_iff]
        rw [ho1] at h9
        rw [Int32.le_iff_toInt_le] at h8 h9
        have e1 : (-1 : Int32).toInt = -1 := rfl
        have e2 : (nI (cn σ0 60) - 1).toInt = (cn σ0 60 : Int) - 1 := by
          have := pk_sub_toInt (a := cn σ0 60) (b := 1) (by omega) (by decide)
          exact this
        rw [e1] at h8
        rw [e2] at h9
        have h7 : w.toInt ≠ -1 := fun z => h35 (Int32.toInt_inj.mp (z.trans e1.symm))
        omega
      refine x_aload_n dX12_table_45 rfl rfl ?_
      refine xm_geta dX12_table_46 lf_X12_126 vma_58 ?_
      refine x_iload_n dX12_table_49 rfl rfl ?_
      refine xm_iald 58 dX12_table_50 mf_58 hi hin rfl ?_
      exact x_ireturn dX12_table_51 rfl rfl (by
have h9 := hq2 _ rfl h16
first
| (rw [if_pos h35] at h9; exact h9)
| (rw [if_neg h35] at h9; exact h9))
    · refine x_aload_n dX12_table_38 rfl rfl ?_
      refine xm_geti dX12_table_39 lf_X12_375 vmi_61 ?_
      refine x_goto (tgt := 51) dX12_table_42 (by decide) ?_
      exact x_ireturn dX12_table_51 rfl rfl (by
have h9 := hq2 _ rfl h16
first
| (rw [if_pos h35] at h9; exact h9)
| (rw [if_neg h35] at h9; exact h9))
  · refine x_bipush (v := -2) dX12_table_19 (by decide) ?_
    exact x_ireturn dX12_table_21 rfl rfl (hq h16)
end MDE
