/-! the model's methods, 4: told, the tape, counts, leanings, questions bought, what is hidden -/
section MDD
variable {G : Gam} {d : Nat} {k : Nat × Nat} {ad : Nat → Nat} {σ σ0 : MS} {M : Mem} {Q : Option Value → Mem → Prop}
theorem c_X12_thrown (hq : Q (some (.int (σ.1 0))) (mm ad σ)) : CT G d (0, 0) MX12_thrown [.ref (ad 99)] (mm ad σ) Q := by
  refine CT.of rfl (Nat.le_of_ble_eq_true rfl) ?_
  refine x_aload_n dX12_thrown_0 rfl rfl ?_
  refine xm_geti dX12_thrown_1 lf_X12_138 vmi_0 ?_
  exact x_ireturn dX12_thrown_4 rfl rfl (hq)
theorem c_X12_told {l w : Int32} (hi : adOK ad) (hc : Cnt σ) (hq : pTold σ l w → Q (some (.int (vTold σ l.toNatClampNeg w))) (mm ad (seti σ 0 0))) (hq2 : ¬ pTold σ l w → Q (some (.int 0)) (mm ad (seti σ 0 1))) : CT G (d + 1) (0, 0) MX12_told [.ref (ad 99), .int l, .int w] (mm ad σ) Q := by
  obtain ⟨hl1, hl2⟩ := hc.b 16 (b := 200) (by decide)
  have hv : pTold σ l w → XJ G (d + 1) (0, 0) MX12_told (mm ad (seti σ 0 0)) [(0, .ref (ad 99)), (1, .int l), (2, .int w)] [] 36 Q := by
    intro hp
    have hq := hq hp
    have hin : vp_in l 200 := in_lt hp.1.1 hp.1.2 hl1 hl2 (by decide)
    obtain ⟨j, hj, rfl⟩ := nI_of2 (M := 6) (n := 6) rfl (Int32.not_lt.mpr hp.2.1) hp.2.2
    refine x_iload_n dX12_told_36 rfl rfl ?_
    have hj7 : j = 0 ∨ j = 1 ∨ j = 2 ∨ j = 3 ∨ j = 4 ∨ j = 5 ∨ j = 6 := by omega
    rcases hj7 with rfl | rfl | rfl | rfl | rfl | rfl | rfl
    · refine x_tableIn (off := 39) (tgt := 76) dX12_told_37 (by decide) (by decide) (by decide) (by decide) ?_
      refine x_aload_n dX12_told_76 rfl rfl ?_
      refine xm_geta dX12_told_77 lf_X12_28 vma_8 ?_
      refine x_iload_n dX12_told_80 rfl rfl ?_
      refine xm_iald 8 dX12_told_81 mf_8 hi hin rfl ?_
      exact x_ireturn dX12_told_82 rfl rfl (hq)
    · refine x_tableIn (off := 46) (tgt := 83) dX12_told_37 (by decide) (by decide) (by decide) (by decide) ?_
      refine x_aload_n dX12_told_83 rfl rfl ?_
      refine xm_geta dX12_told_84 lf_X12_31 vma_9 ?_
      refine x_iload_n dX12_told_87 rfl rfl ?_
      refine xm_iald 9 dX12_told_88 mf_9 hi hin rfl ?_
      exact x_ireturn dX12_told_89 rfl rfl (hq)
    · refine x_tableIn (off := 53) (tgt := 90) dX12_told_37 (by decide) (by decide) (by decide) (by decide) ?_
      refine x_aload_n dX12_told_90 rfl rfl ?_
      refine xm_geta dX12_told_91 lf_X12_34 vma_10 ?_
      refine x_iload_n dX12_told_94 rfl rfl ?_
      refine xm_iald 10 dX12_told_95 mf_10 hi hin rfl ?_
      exact x_ireturn dX12_told_96 rfl rfl (hq)
    · refine x_tableIn (off := 60) (tgt := 97) dX12_told_37 (by decide) (by decide) (by decide) (by decide) ?_
      refine x_aload_n dX12_told_97 rfl rfl ?_
      refine xm_geta dX12_told_98 lf_X12_37 vma_11 ?_
      refine x_iload_n dX12_told_101 rfl rfl ?_
      refine xm_iald 11 dX12_told_102 mf_11 hi hin rfl ?_
      exact x_ireturn dX12_told_103 rfl rfl (hq)
    · refine x_tableIn (off := 67) (tgt := 104) dX12_told_37 (by decide) (by decide) (by decide) (by decide) ?_
      refine x_aload_n dX12_told_104 rfl rfl ?_
      refine xm_geta dX12_told_105 lf_X12_40 vma_12 ?_
      refine x_iload_n dX12_told_108 rfl rfl ?_
      refine xm_iald 12 dX12_told_109 mf_12 hi hin rfl ?_
      exact x_ireturn dX12_told_110 rfl rfl (hq)
    · refine x_tableIn (off := 74) (tgt := 111) dX12_told_37 (by decide) (by decide) (by decide) (by decide) ?_
      refine x_aload_n dX12_told_111 rfl rfl ?_
      refine xm_geta dX12_told_112 lf_X12_43 vma_13 ?_
      refine x_iload_n dX12_told_115 rfl rfl ?_
      refine xm_iald 13 dX12_told_116 mf_13 hi hin rfl ?_
      exact x_ireturn dX12_told_117 rfl rfl (hq)
    · refine x_tableOut (tgt := 118) dX12_told_37 (Or.inr (by decide)) (by decide) ?_
      refine x_aload_n dX12_told_118 rfl rfl ?_
      refine xm_geta dX12_told_119 lf_X12_46 vma_14 ?_
      refine x_iload_n dX12_told_122 rfl rfl ?_
      refine xm_iald 14 dX12_told_123 mf_14 hi hin rfl ?_
      exact x_ireturn dX12_told_124 rfl rfl (hq)
  refine CT.of rfl (Nat.le_of_ble_eq_true rfl) ?_
  refine x_aload_n dX12_told_0 rfl rfl ?_
  refine x_aload_n dX12_told_1 rfl rfl ?_
  refine x_iload_n dX12_told_2 rfl rfl ?_
  refine x_cV1 dX12_told_3 lv_X12_155 mm_obj rfl rfl rfl  (c_X12_isLine ?_)
  refine x_if_eq_b (tgt := 23) dX12_told_6 (by decide) (fun h6 => ?_) (fun h6 => ?_)
  · refine x_iconst (v := 1) dX12_told_23 (by decide) ?_
    refine xm_puti dX12_told_24 lp_X12_138 vmq_0 vmn_0 vmf_0 ?_
    refine x_aload_n dX12_told_27 rfl rfl ?_
    refine xm_geti dX12_told_28 lf_X12_138 vmi_0 ?_
    refine x_if_le (tgt := 36) dX12_told_31 (by decide) (fun z => absurd z (show ¬ (1 : Int32) ≤ 0 by decide)) (fun _ => ?_)
    refine x_iconst (v := 0) dX12_told_34 (by decide) ?_
    exact x_ireturn dX12_told_35 rfl rfl (hq2 (fun z => by first | exact h6 z.1 | exact h16 z.2))
  · refine x_iload_n dX12_told_9 rfl rfl ?_
    refine x_iconst (v := 0) dX12_told_10 (by decide) ?_
    refine x_bipush (v := 6) dX12_told_11 (by decide) ?_
    refine x_cS3 dX12_told_13 ls_X12_145 rfl  (c_X12_isIn ?_)
    refine x_if_eq_b (tgt := 23) dX12_told_16 (by decide) (fun h16 => ?_) (fun h16 => ?_)
    · refine x_iconst (v := 1) dX12_told_23 (by decide) ?_
      refine xm_puti dX12_told_24 lp_X12_138 vmq_0 vmn_0 vmf_0 ?_
      refine x_aload_n dX12_told_27 rfl rfl ?_
      refine xm_geti dX12_told_28 lf_X12_138 vmi_0 ?_
      refine x_if_le (tgt := 36) dX12_told_31 (by decide) (fun z => absurd z (show ¬ (1 : Int32) ≤ 0 by decide)) (fun _ => ?_)
      refine x_iconst (v := 0) dX12_told_34 (by decide) ?_
      exact x_ireturn dX12_told_35 rfl rfl (hq2 (fun z => by first | exact h6 z.1 | exact h16 z.2))
    · refine x_iconst (v := 0) dX12_told_19 (by decide) ?_
      refine x_goto (tgt := 24) dX12_told_20 (by decide) ?_
      refine xm_puti dX12_told_24 lp_X12_138 vmq_0 vmn_0 vmf_0 ?_
      refine x_aload_n dX12_told_27 rfl rfl ?_
      refine xm_geti dX12_told_28 lf_X12_138 vmi_0 ?_
      refine x_if_le (tgt := 36) dX12_told_31 (by decide) (fun _ => ?_) (fun z => absurd (Int32.le_refl _) z)
      refine x_loc _ (?_ : lle _ _) (hv ⟨h6, h16⟩)
      exact ⟨rfl, rfl, rfl, trivial⟩
theorem c_X12_put {v : Int32} {m : Nat} (hi : adOK ad) (hm : σ.1 24 = nI m) (hb : m + nB v 4 ≤ 160) (hq : Q none (mm ad (putS v 4 σ))) : CT G d (0, 0) MX12_put [.ref (ad 99), .int v] (mm ad σ) Q := by
  have hlen := putS_len v σ hm
  refine CT.of rfl (Nat.le_of_ble_eq_true rfl) ?_
  refine x_bipush (v := 24) dX12_put_0 (by decide) ?_
  refine x_istore_n dX12_put_2 rfl (by decide) ?_
  refine x_loc [(0, .ref (ad 99)), (1, .int v), (2, .int (if 0 = 4 then -8 else nI (24 - 8 * 0)))] ⟨rfl, rfl, rfl, trivial⟩ ?_
  refine loop_up (P := fun i => XJ G d (0, 0) MX12_put (mm ad (putS v i σ)) [(0, .ref (ad 99)), (1, .int v), (2, .int (if i = 4 then -8 else nI (24 - 8 * i)))] [] 3 Q) (n := 4) ?_ ?_ 0 (Nat.zero_le _)
  · refine x_iload_n dX12_put_3 rfl rfl ?_
    refine x_if_lt (tgt := 49) dX12_put_4 (by decide) (fun _ => ?_) (fun z => absurd (by decide) z)
    exact x_return dX12_put_49 rfl (hq)
  · intro i hlt ih
    refine x_iload_n dX12_put_3 rfl rfl ?_
    have hi4 : ¬ (if i = 4 then -8 else nI (24 - 8 * i)) < 0 := by rw [if_neg (by omega)]; exact nI_pos (by omega)
    refine x_if_lt (tgt := 49) dX12_put_4 (by decide) (fun z => absurd z hi4) (fun _ => ?_)
    refine x_iload_n dX12_put_7 rfl rfl ?_
    refine x_iload_n dX12_put_8 rfl rfl ?_
    refine x_ishr dX12_put_9 ?_
    refine x_sipush (v := 255) dX12_put_10 (by decide) ?_
    refine x_iand dX12_put_13 ?_
    refine x_if_ne (tgt := 20) dX12_put_14 (by decide) (fun h14 => ?_) (fun h14 => ?_)
    · have hi3 : nB v i + 1 ≤ nB v 4 := by
        have hs2 : (if i = 4 then -8 else nI (24 - 8 * i)) = nI (24 - 8 * i) := if_neg (by omega)
        rw [hs2] at h14
        have e : nB v (i + 1) = if (v >>> ((nI (24 - 8 * i)) &&& 31)) &&& 255 = 0 then nB v i else nB v i + 1 := rfl
        rw [if_neg h14] at e
        have hmono : ∀ a b, a ≤ b → nB v a ≤ nB v b := by
          intro a b hab
          induction hab with
          | refl => exact Nat.le_refl _
          | @step b hab ihb =>
            have e2 : nB v (b + 1) = if (v >>> ((nI (24 - 8 * b)) &&& 31)) &&& 255 = 0 then nB v b else nB v b + 1 := rfl
            have : nB v b ≤ nB v (b + 1) := by rw [e2]; split <;> omega
            exact Nat.le_trans ihb this
        have := hmono (i + 1) 4 (by omega)
        omega
      have hin : vp_in ((putS v i σ).1 24) 160 := by rw [hlen i]; exact vp_in_nI (by omega) (by decide)
      refine x_aload_n dX12_put_20 rfl rfl ?_
      refine xm_geta dX12_put_21 lf_X12_49 vma_18 ?_
      refine x_aload_n dX12_put_24 rfl rfl ?_
      refine xm_geti dX12_put_25 lf_X12_178 vmi_24 ?_
      refine x_iload_n dX12_put_28 rfl rfl ?_
      refine x_iload_n dX12_put_29 rfl rfl ?_
      refine x_ishr dX12_put_30 ?_
      refine x_i2b dX12_put_31 ?_
      refine xm_bast 18 dX12_put_32 mf_18 hi hin rfl ?_
      refine x_aload_n dX12_put_33 rfl rfl ?_
      refine x_dup dX12_put_34 rfl ?_
      refine xm_geti dX12_put_35 lf_X12_178 vmi_24 ?_
      refine x_iconst (v := 1) dX12_put_38 (by decide) ?_
      refine x_iadd dX12_put_39 ?_
      refine xm_puti dX12_put_40 lp_X12_178 vmq_24 vmn_24 vmf_24 ?_
      refine x_iinc (c := -8) dX12_put_43 rfl (by decide) ?_
      refine x_goto (tgt := 3) dX12_put_46 (by decide) ?_
      have hs : putS v (i + 1) σ = if (v >>> ((nI (24 - 8 * i)) &&& 31)) &&& 255 = 0 then putS v i σ else seti (seta (putS v i σ) 18 (cn (putS v i σ) 24) ((v >>> ((nI (24 - 8 * i)) &&& 31)).toInt8.toInt32).toInt8.toInt32) 24 ((putS v i σ).1 24 + 1) := rfl
      have hs2 : (if i = 4 then -8 else nI (24 - 8 * i)) = nI (24 - 8 * i) := if_neg (by omega)
      rw [hs2] at h14
      first
      | rw [if_pos (by simpa using h14)] at hs
      | rw [if_neg h14] at hs
      try rw [hs2]
      rw [hs] at ih
      refine x_loc _ (?_ : lle _ _) ih
      refine ⟨rfl, rfl, ?_, trivial⟩
      show some (Value.int _) = some (Value.int (if i + 1 = 4 then -8 else nI (24 - 8 * (i + 1))))
      rw [sh_step hlt]
      by_cases e : i = 3
      · rw [if_pos e, if_pos (by omega)]
      · rw [if_neg e, if_neg (by omega)]
    · refine x_goto (tgt := 43) dX12_put_17 (by decide) ?_
      refine x_iinc (c := -8) dX12_put_43 rfl (by decide) ?_
      refine x_goto (tgt := 3) dX12_put_46 (by decide) ?_
      have hs : putS v (i + 1) σ = if (v >>> ((nI (24 - 8 * i)) &&& 31)) &&& 255 = 0 then putS v i σ else seti (seta (putS v i σ) 18 (cn (putS v i σ) 24) ((v >>> ((nI (24 - 8 * i)) &&& 31)).toInt8.toInt32).toInt8.toInt32) 24 ((putS v i σ).1 24 + 1) := rfl
      have hs2 : (if i = 4 then -8 else nI (24 - 8 * i)) = nI (24 - 8 * i) := if_neg (by omega)
      rw [hs2] at h14
      first
      | rw [if_pos (by simpa using h14)] at hs
      | rw [if_neg h14] at hs
      try rw [hs2]
      rw [hs] at ih
      refine x_loc _ (?_ : lle _ _) ih
      refine ⟨rfl, rfl, ?_, trivial⟩
      show some (Value.int _) = some (Value.int (if i + 1 = 4 then -8 else nI (24 - 8 * (i + 1))))
      rw [sh_step hlt]
      by_cases e : i = 3
      · rw [if_pos e, if_pos (by omega)]
      · rw [if_neg e, if_neg (by omega)]
theorem c_X12_feed {a b c e f : Int32} (hi : adOK ad) (h0 : seti σ 0 0 = σ0) (hc : Cnt σ0) (hq : Q (some (.int (aFeed σ0 a b c e f))) (mm ad (nFeed σ0 a b c e f))) : CT G (d + 1) (0, 0) MX12_feed [.ref (ad 99), .int a, .int b, .int c, .int e, .int f] (mm ad σ) Q := by
  obtain ⟨hl1, hl2⟩ := hc.b 24 (b := 160) (by decide)
  have ha := nB_le a 4
  have hb := nB_le b 4
  have hcc := nB_le c 4
  have he := nB_le e 4
  have hf := nB_le f 4
  have hsum := fedTo_n hl1 a b c e f
  have l1 := putS_len a σ0 hl1 4
  have l2 := putS_len b _ l1 4
  have l3 := putS_len c _ l2 4
  have l4 := putS_len e _ l3 4
  refine CT.of rfl (Nat.le_of_ble_eq_true rfl) ?_
  refine x_aload_n dX12_feed_0 rfl rfl ?_
  refine x_iconst (v := 0) dX12_feed_1 (by decide) ?_
  refine xm_puti dX12_feed_2 lp_X12_138 vmq_0 vmn_0 vmf_0 ?_
  rw [h0]
  refine x_aload_n dX12_feed_5 rfl rfl ?_
  refine xm_geti dX12_feed_6 lf_X12_178 vmi_24 ?_
  refine x_iload_n dX12_feed_9 rfl rfl ?_
  refine x_cS1 dX12_feed_10 ls_X12_181 rfl  (c_X12_bytesIn ?_)
  refine x_iadd dX12_feed_13 ?_
  refine x_iload_n dX12_feed_14 rfl rfl ?_
  refine x_cS1 dX12_feed_15 ls_X12_181 rfl  (c_X12_bytesIn ?_)
  refine x_iadd dX12_feed_18 ?_
  refine x_iload_n dX12_feed_19 rfl rfl ?_
  refine x_cS1 dX12_feed_20 ls_X12_181 rfl  (c_X12_bytesIn ?_)
  refine x_iadd dX12_feed_23 ?_
  refine x_iload dX12_feed_24 rfl ?_
  refine x_cS1 dX12_feed_26 ls_X12_181 rfl  (c_X12_bytesIn ?_)
  refine x_iadd dX12_feed_29 ?_
  refine x_iload dX12_feed_30 rfl ?_
  refine x_cS1 dX12_feed_32 ls_X12_181 rfl  (c_X12_bytesIn ?_)
  refine x_iadd dX12_feed_35 ?_
  refine x_sipush (v := 160) dX12_feed_36 (by decide) ?_
  refine x_icmp_le (tgt := 44) dX12_feed_39 (by decide) (fun h39 => ?_) (fun h39 => ?_)
  · have hfit : cn σ0 24 + nB a 4 + nB b 4 + nB c 4 + nB e 4 + nB f 4 ≤ 160 := by
      have h9 : fedTo σ0 a b c e f ≤ 160 := h39
      rw [hsum] at h9
      exact (nI_leI (by omega) (by decide) (b := 160)).mp h9
    refine x_aload_n dX12_feed_44 rfl rfl ?_
    refine x_iload_n dX12_feed_45 rfl rfl ?_
    refine x_cV1 dX12_feed_46 lv_X12_185 mm_obj rfl rfl rfl  (c_X12_put hi hl1 (by omega) ?_)
    refine x_aload_n dX12_feed_49 rfl rfl ?_
    refine x_iload_n dX12_feed_50 rfl rfl ?_
    refine x_cV1 dX12_feed_51 lv_X12_185 mm_obj rfl rfl rfl  (c_X12_put hi l1 (by omega) ?_)
    refine x_aload_n dX12_feed_54 rfl rfl ?_
    refine x_iload_n dX12_feed_55 rfl rfl ?_
    refine x_cV1 dX12_feed_56 lv_X12_185 mm_obj rfl rfl rfl  (c_X12_put hi l2 (by omega) ?_)
    refine x_aload_n dX12_feed_59 rfl rfl ?_
    refine x_iload dX12_feed_60 rfl ?_
    refine x_cV1 dX12_feed_62 lv_X12_185 mm_obj rfl rfl rfl  (c_X12_put hi l3 (by omega) ?_)
    refine x_aload_n dX12_feed_65 rfl rfl ?_
    refine x_iload dX12_feed_66 rfl ?_
    refine x_cV1 dX12_feed_68 lv_X12_185 mm_obj rfl rfl rfl  (c_X12_put hi l4 (by omega) ?_)
    refine x_aload_n dX12_feed_71 rfl rfl ?_
    refine xm_geti dX12_feed_72 lf_X12_178 vmi_24 ?_
    exact x_ireturn dX12_feed_75 rfl rfl (fin_t (m := mm ad) hq h39 rfl)
  · refine x_iconst (v := -1) dX12_feed_42 (by decide) ?_
    exact x_ireturn dX12_feed_43 rfl rfl (fin_f (m := mm ad) hq (fun z => h39 z))
theorem c_X12_lean {sort q : Int32} (hi : adOK ad) (h0 : seti σ 0 0 = σ0) (hc : Cnt σ0) (hq : Q (some (.int (aLean σ0 sort q))) (mm ad σ0)) : CT G (d + 2) (0, 0) MX12_lean [.ref (ad 99), .int sort, .int q] (mm ad σ) Q := by
  obtain ⟨hp1, hp2⟩ := hc.b 15 (b := 24) (by decide)
  obtain ⟨hl1, hl2⟩ := hc.b 16 (b := 200) (by decide)
  refine CT.of rfl (Nat.le_of_ble_eq_true rfl) ?_
  refine x_aload_n dX12_lean_0 rfl rfl ?_
  refine x_iconst (v := 0) dX12_lean_1 (by decide) ?_
  refine xm_puti dX12_lean_2 lp_X12_138 vmq_0 vmn_0 vmf_0 ?_
  rw [h0]
  refine x_iload_n dX12_lean_5 rfl rfl ?_
  refine x_cS1 dX12_lean_6 ls_X12_168 rfl  (c_X12_isSort ?_)
  refine x_if_eq_b (tgt := 20) dX12_lean_9 (by decide) (fun h9 => ?_) (fun h9 => ?_)
  · refine x_ldcw dX12_lean_20 tb1627 ?_
    exact x_ireturn dX12_lean_23 rfl rfl (fan_f hq (fun z => by first | exact h9 z.1 | exact h17 z.2))
  · refine x_aload_n dX12_lean_12 rfl rfl ?_
    refine x_iload_n dX12_lean_13 rfl rfl ?_
    refine x_cV1 dX12_lean_14 lv_X12_159 mm_obj rfl rfl rfl  (c_X12_isKnown ?_)
    refine x_if_ne_b (tgt := 24) dX12_lean_17 (by decide) (fun h17 => ?_) (fun h17 => ?_)
    · have hq := fan_t hq ⟨h9, h17⟩
      refine x_iconst (v := 0) dX12_lean_24 (by decide) ?_
      refine x_istore_n dX12_lean_25 rfl (by decide) ?_
      refine x_iconst (v := 0) dX12_lean_26 (by decide) ?_
      refine x_istore dX12_lean_27 (by decide) ?_
      refine x_iconst (v := 0) dX12_lean_29 (by decide) ?_
      refine x_istore dX12_lean_30 (by decide) ?_
      refine x_iconst (v := 0) dX12_lean_32 (by decide) ?_
      refine x_istore dX12_lean_33 (by decide) ?_
      refine x_iconst (v := 0) dX12_lean_35 (by decide) ?_
      refine x_istore dX12_lean_36 (by decide) ?_
      refine x_loc [(0, .ref (ad 99)), (1, .int sort), (2, .int q), (3, .int (spLean σ0 sort q 0).1.1), (4, .int (spLean σ0 sort q 0).1.2), (5, .int (spLean σ0 sort q 0).2.1), (6, .int (spLean σ0 sort q 0).2.2), (7, .int (nI 0))] ⟨rfl, rfl, rfl, rfl, rfl, rfl, rfl, rfl, trivial⟩ ?_
      refine loop_up (P := fun i => XJ G (d + 2) (0, 0) MX12_lean (mm ad σ0) [(0, .ref (ad 99)), (1, .int sort), (2, .int q), (3, .int (spLean σ0 sort q i).1.1), (4, .int (spLean σ0 sort q i).1.2), (5, .int (spLean σ0 sort q i).2.1), (6, .int (spLean σ0 sort q i).2.2), (7, .int (nI i))] [] 38 Q) (n := cn σ0 15) ?_ ?_ 0 (Nat.zero_le _)
      · refine x_iload dX12_lean_38 rfl ?_
        refine x_aload_n dX12_lean_40 rfl rfl ?_
        refine xm_geti dX12_lean_41 lf_X12_149 vmi_15 ?_
        refine x_icmp_ge (tgt := 122) dX12_lean_44 (by decide) (fun _ => ?_) (fun z => absurd (loopT hp1) z)
        refine x_iload_n dX12_lean_122 rfl rfl ?_
        refine x_if_eq (tgt := 131) dX12_lean_123 (by decide) (fun h123 => ?_) (fun h123 => ?_)
        · refine x_ldcw dX12_lean_131 tb1627 ?_
          refine x_goto (tgt := 155) dX12_lean_134 (by decide) ?_
          exact x_ireturn dX12_lean_155 rfl rfl (by first | (rw [if_neg (fun z => by rcases z with z | z; exact h123 z; exact h128 z)] at hq; exact hq) | (rw [if_pos (by first | exact Or.inl h123 | exact Or.inr (by simpa using h128))] at hq; exact hq))
        · refine x_iload dX12_lean_126 rfl ?_
          refine x_if_ne (tgt := 137) dX12_lean_128 (by decide) (fun h128 => ?_) (fun h128 => ?_)
          · refine x_sipush (v := 1000) dX12_lean_137 (by decide) ?_
            refine x_iload dX12_lean_140 rfl ?_
            refine x_imul dX12_lean_142 ?_
            refine x_iload_n dX12_lean_143 rfl rfl ?_
            refine x_idiv dX12_lean_144 h123 ?_
            refine x_sipush (v := 1000) dX12_lean_145 (by decide) ?_
            refine x_iload dX12_lean_148 rfl ?_
            refine x_imul dX12_lean_150 ?_
            refine x_iload dX12_lean_151 rfl ?_
            refine x_idiv dX12_lean_153 h128 ?_
            refine x_isub dX12_lean_154 ?_
            exact x_ireturn dX12_lean_155 rfl rfl (by first | (rw [if_neg (fun z => by rcases z with z | z; exact h123 z; exact h128 z)] at hq; exact hq) | (rw [if_pos (by first | exact Or.inl h123 | exact Or.inr (by simpa using h128))] at hq; exact hq))
          · refine x_ldcw dX12_lean_131 tb1627 ?_
            refine x_goto (tgt := 155) dX12_lean_134 (by decide) ?_
            exact x_ireturn dX12_lean_155 rfl rfl (by first | (rw [if_neg (fun z => by rcases z with z | z; exact h123 z; exact h128 z)] at hq; exact hq) | (rw [if_pos (by first | exact Or.inl h123 | exact Or.inr (by simpa using h128))] at hq; exact hq))
      · intro i hlt ih
        refine x_iload dX12_lean_38 rfl ?_
        refine x_aload_n dX12_lean_40 rfl rfl ?_
        refine xm_geti dX12_lean_41 lf_X12_149 vmi_15 ?_
        refine x_icmp_ge (tgt := 122) dX12_lean_44 (by decide) (fun z => absurd z (loopF hp1 hlt (by omega))) (fun _ => ?_)
        refine x_aload_n dX12_lean_47 rfl rfl ?_
        refine x_iload dX12_lean_48 rfl ?_
        refine x_iload_n dX12_lean_50 rfl rfl ?_
        refine x_cV2 dX12_lean_51 lv_X12_363 mm_obj rfl rfl rfl  (c_X12_lastOf hi hc ?_)
        refine x_istore dX12_lean_54 (by decide) ?_
        refine x_iload dX12_lean_56 rfl ?_
        refine x_iconst (v := -1) dX12_lean_58 (by decide) ?_
        refine x_icmp_ne (tgt := 65) dX12_lean_59 (by decide) (fun h59 => ?_) (fun h59 => ?_)
        · have hin : vp_in (spLast σ0 (nI i) q (cn σ0 16)) 200 := by
            rcases spLast_cases (σ := σ0) (p := nI i) (q := q) (cn σ0 16) with h | ⟨j, h1, h2⟩
            · exact absurd h h59
            · rw [h2]; exact vp_in_nI (by omega) (by decide)
          refine x_aload_n dX12_lean_65 rfl rfl ?_
          refine xm_geta dX12_lean_66 lf_X12_34 vma_10 ?_
          refine x_iload dX12_lean_69 rfl ?_
          refine xm_iald 10 dX12_lean_71 mf_10 hi hin rfl ?_
          refine x_iload_n dX12_lean_72 rfl rfl ?_
          refine x_icmp_ne (tgt := 80) dX12_lean_73 (by decide) (fun h73 => ?_) (fun h73 => ?_)
          · refine x_iconst (v := 0) dX12_lean_80 (by decide) ?_
            refine x_istore dX12_lean_81 (by decide) ?_
            refine x_aload_n dX12_lean_83 rfl rfl ?_
            refine x_iload dX12_lean_84 rfl ?_
            refine x_iload_n dX12_lean_86 rfl rfl ?_
            refine x_cV2 dX12_lean_87 lv_X12_366 mm_obj rfl rfl rfl  (c_X12_isStopped hi hc ?_)
            refine x_if_eq_b (tgt := 106) dX12_lean_90 (by decide) (fun h90 => ?_) (fun h90 => ?_)
            · refine x_iinc (c := 1) dX12_lean_106 rfl (by decide) ?_
              refine x_iload dX12_lean_109 rfl ?_
              refine x_iload dX12_lean_111 rfl ?_
              refine x_iadd dX12_lean_113 ?_
              refine x_istore dX12_lean_114 (by decide) ?_
              refine x_iinc (c := 1) dX12_lean_116 rfl (by decide) ?_
              refine x_goto (tgt := 38) dX12_lean_119 (by decide) ?_
              refine x_loc _ (?_ : lle _ _) ih
              have hs : spLean σ0 sort q (i + 1) = if spLast σ0 (nI i) q (cn σ0 16) = -1 then spLean σ0 sort q i else cI (isG σ0 (nI i) q q) (((spLean σ0 sort q i).1.1 + 1, (spLean σ0 sort q i).1.2 + (if σ0.2 10 (spLast σ0 (nI i) q (cn σ0 16)).toNatClampNeg = sort then 1 else 0)), (spLean σ0 sort q i).2) ((spLean σ0 sort q i).1, ((spLean σ0 sort q i).2.1 + 1, (spLean σ0 sort q i).2.2 + (if σ0.2 10 (spLast σ0 (nI i) q (cn σ0 16)).toNatClampNeg = sort then 1 else 0))) := rfl
              first
              | rw [if_pos h59] at hs
              | rw [if_neg h59, cI_t h90, if_pos h73] at hs
              | rw [if_neg h59, cI_t h90, if_neg h73] at hs
              | rw [if_neg h59, cI_f h90, if_pos h73] at hs
              | rw [if_neg h59, cI_f h90, if_neg h73] at hs
              | rw [if_pos (by simpa using h59)] at hs
              rw [hs]
              exact ⟨rfl, rfl, rfl, rfl, rfl, rfl, rfl, congrArg some (congrArg Value.int (nI_1 _)), trivial⟩
            · refine x_iinc (c := 1) dX12_lean_93 rfl (by decide) ?_
              refine x_iload dX12_lean_96 rfl ?_
              refine x_iload dX12_lean_98 rfl ?_
              refine x_iadd dX12_lean_100 ?_
              refine x_istore dX12_lean_101 (by decide) ?_
              refine x_goto (tgt := 116) dX12_lean_103 (by decide) ?_
              refine x_iinc (c := 1) dX12_lean_116 rfl (by decide) ?_
              refine x_goto (tgt := 38) dX12_lean_119 (by decide) ?_
              refine x_loc _ (?_ : lle _ _) ih
              have hs : spLean σ0 sort q (i + 1) = if spLast σ0 (nI i) q (cn σ0 16) = -1 then spLean σ0 sort q i else cI (isG σ0 (nI i) q q) (((spLean σ0 sort q i).1.1 + 1, (spLean σ0 sort q i).1.2 + (if σ0.2 10 (spLast σ0 (nI i) q (cn σ0 16)).toNatClampNeg = sort then 1 else 0)), (spLean σ0 sort q i).2) ((spLean σ0 sort q i).1, ((spLean σ0 sort q i).2.1 + 1, (spLean σ0 sort q i).2.2 + (if σ0.2 10 (spLast σ0 (nI i) q (cn σ0 16)).toNatClampNeg = sort then 1 else 0))) := rfl
              first
              | rw [if_pos h59] at hs
              | rw [if_neg h59, cI_t h90, if_pos h73] at hs
              | rw [if_neg h59, cI_t h90, if_neg h73] at hs
              | rw [if_neg h59, cI_f h90, if_pos h73] at hs
              | rw [if_neg h59, cI_f h90, if_neg h73] at hs
              | rw [if_pos (by simpa using h59)] at hs
              rw [hs]
              exact ⟨rfl, rfl, rfl, rfl, rfl, rfl, rfl, congrArg some (congrArg Value.int (nI_1 _)), trivial⟩
          · refine x_iconst (v := 1) dX12_lean_76 (by decide) ?_
            refine x_goto (tgt := 81) dX12_lean_77 (by decide) ?_
            refine x_istore dX12_lean_81 (by decide) ?_
            refine x_aload_n dX12_lean_83 rfl rfl ?_
            refine x_iload dX12_lean_84 rfl ?_
            refine x_iload_n dX12_lean_86 rfl rfl ?_
            refine x_cV2 dX12_lean_87 lv_X12_366 mm_obj rfl rfl rfl  (c_X12_isStopped hi hc ?_)
            refine x_if_eq_b (tgt := 106) dX12_lean_90 (by decide) (fun h90 => ?_) (fun h90 => ?_)
            · refine x_iinc (c := 1) dX12_lean_106 rfl (by decide) ?_
              refine x_iload dX12_lean_109 rfl ?_
              refine x_iload dX12_lean_111 rfl ?_
              refine x_iadd dX12_lean_113 ?_
              refine x_istore dX12_lean_114 (by decide) ?_
              refine x_iinc (c := 1) dX12_lean_116 rfl (by decide) ?_
              refine x_goto (tgt := 38) dX12_lean_119 (by decide) ?_
              refine x_loc _ (?_ : lle _ _) ih
              have hs : spLean σ0 sort q (i + 1) = if spLast σ0 (nI i) q (cn σ0 16) = -1 then spLean σ0 sort q i else cI (isG σ0 (nI i) q q) (((spLean σ0 sort q i).1.1 + 1, (spLean σ0 sort q i).1.2 + (if σ0.2 10 (spLast σ0 (nI i) q (cn σ0 16)).toNatClampNeg = sort then 1 else 0)), (spLean σ0 sort q i).2) ((spLean σ0 sort q i).1, ((spLean σ0 sort q i).2.1 + 1, (spLean σ0 sort q i).2.2 + (if σ0.2 10 (spLast σ0 (nI i) q (cn σ0 16)).toNatClampNeg = sort then 1 else 0))) := rfl
              first
              | rw [if_pos h59] at hs
              | rw [if_neg h59, cI_t h90, if_pos h73] at hs
              | rw [if_neg h59, cI_t h90, if_neg h73] at hs
              | rw [if_neg h59, cI_f h90, if_pos h73] at hs
              | rw [if_neg h59, cI_f h90, if_neg h73] at hs
              | rw [if_pos (by simpa using h59)] at hs
              rw [hs]
              exact ⟨rfl, rfl, rfl, rfl, rfl, rfl, rfl, congrArg some (congrArg Value.int (nI_1 _)), trivial⟩
            · refine x_iinc (c := 1) dX12_lean_93 rfl (by decide) ?_
              refine x_iload dX12_lean_96 rfl ?_
              refine x_iload dX12_lean_98 rfl ?_
              refine x_iadd dX12_lean_100 ?_
              refine x_istore dX12_lean_101 (by decide) ?_
              refine x_goto (tgt := 116) dX12_lean_103 (by decide) ?_
              refine x_iinc (c := 1) dX12_lean_116 rfl (by decide) ?_
              refine x_goto (tgt := 38) dX12_lean_119 (by decide) ?_
              refine x_loc _ (?_ : lle _ _) ih
              have hs : spLean σ0 sort q (i + 1) = if spLast σ0 (nI i) q (cn σ0 16) = -1 then spLean σ0 sort q i else cI (isG σ0 (nI i) q q) (((spLean σ0 sort q i).1.1 + 1, (spLean σ0 sort q i).1.2 + (if σ0.2 10 (spLast σ0 (nI i) q (cn σ0 16)).toNatClampNeg = sort then 1 else 0)), (spLean σ0 sort q i).2) ((spLean σ0 sort q i).1, ((spLean σ0 sort q i).2.1 + 1, (spLean σ0 sort q i).2.2 + (if σ0.2 10 (spLast σ0 (nI i) q (cn σ0 16)).toNatClampNeg = sort then 1 else 0))) := rfl
              first
              | rw [if_pos h59] at hs
              | rw [if_neg h59, cI_t h90, if_pos h73] at hs
              | rw [if_neg h59, cI_t h90, if_neg h73] at hs
              | rw [if_neg h59, cI_f h90, if_pos h73] at hs
              | rw [if_neg h59, cI_f h90, if_neg h73] at hs
              | rw [if_pos (by simpa using h59)] at hs
              rw [hs]
              exact ⟨rfl, rfl, rfl, rfl, rfl, rfl, rfl, congrArg some (congrArg Value.int (nI_1 _)), trivial⟩
        · refine x_goto (tgt := 116) dX12_lean_62 (by decide) ?_
          refine x_iinc (c := 1) dX12_lean_116 rfl (by decide) ?_
          refine x_goto (tgt := 38) dX12_lean_119 (by decide) ?_
          refine x_loc _ (?_ : lle _ _) ih
          have hs : spLean σ0 sort q (i + 1) = if spLast σ0 (nI i) q (cn σ0 16) = -1 then spLean σ0 sort q i else cI (isG σ0 (nI i) q q) (((spLean σ0 sort q i).1.1 + 1, (spLean σ0 sort q i).1.2 + (if σ0.2 10 (spLast σ0 (nI i) q (cn σ0 16)).toNatClampNeg = sort then 1 else 0)), (spLean σ0 sort q i).2) ((spLean σ0 sort q i).1, ((spLean σ0 sort q i).2.1 + 1, (spLean σ0 sort q i).2.2 + (if σ0.2 10 (spLast σ0 (nI i) q (cn σ0 16)).toNatClampNeg = sort then 1 else 0))) := rfl
          first
          | rw [if_pos h59] at hs
          | rw [if_neg h59, cI_t h90, if_pos h73] at hs
          | rw [if_neg h59, cI_t h90, if_neg h73] at hs
          | rw [if_neg h59, cI_f h90, if_pos h73] at hs
          | rw [if_neg h59, cI_f h90, if_neg h73] at hs
          | rw [if_pos (by simpa using h59)] at hs
          rw [hs]
          exact ⟨rfl, rfl, rfl, rfl, rfl, rfl, rfl, congrArg some (congrArg Value.int (nI_1 _)), trivial⟩
    · refine x_ldcw dX12_lean_20 tb1627 ?_
      exact x_ireturn dX12_lean_23 rfl rfl (fan_f hq (fun z => by first | exact h9 z.1 | exact h17 z.2))
theorem c_X12_count {w : Int32} (hi : adOK ad) (h0 : seti σ 0 0 = σ0) (hc : Cnt σ0) (hq : Q (some (.int (aCount σ0 w))) (mm ad σ0)) : CT G (d + 2) (0, 0) MX12_count [.ref (ad 99), .int w] (mm ad σ) Q := by
  obtain ⟨hp1, hp2⟩ := hc.b 15 (b := 24) (by decide)
  refine CT.of rfl (Nat.le_of_ble_eq_true rfl) ?_
  refine x_aload_n dX12_count_0 rfl rfl ?_
  refine x_iconst (v := 0) dX12_count_1 (by decide) ?_
  refine xm_puti dX12_count_2 lp_X12_138 vmq_0 vmn_0 vmf_0 ?_
  rw [h0]
  refine x_iload_n dX12_count_5 rfl rfl ?_
  skip
  by_cases hw : 0 ≤ w ∧ w ≤ 11
  · obtain ⟨j, hj, rfl⟩ := nI_of2 (M := 11) (n := 11) rfl (Int32.not_lt.mpr hw.1) hw.2
    have hj12 : j = 0 ∨ j = 1 ∨ j = 2 ∨ j = 3 ∨ j = 4 ∨ j = 5 ∨ j = 6 ∨ j = 7 ∨ j = 8 ∨ j = 9 ∨ j = 10 ∨ j = 11 := by omega
    rcases hj12 with rfl | rfl | rfl | rfl | rfl | rfl | rfl | rfl | rfl | rfl | rfl | rfl
    · refine x_tableIn (off := 62) (tgt := 68) dX12_count_6 (by decide) (by decide) (by decide) (by decide) ?_
      refine x_aload_n dX12_count_68 rfl rfl ?_
      refine xm_geti dX12_count_69 lf_X12_142 vmi_1 ?_
      exact x_ireturn dX12_count_72 rfl rfl (hq)
    · refine x_tableIn (off := 67) (tgt := 73) dX12_count_6 (by decide) (by decide) (by decide) (by decide) ?_
      refine x_aload_n dX12_count_73 rfl rfl ?_
      refine xm_geti dX12_count_74 lf_X12_149 vmi_15 ?_
      exact x_ireturn dX12_count_77 rfl rfl (hq)
    · refine x_tableIn (off := 72) (tgt := 78) dX12_count_6 (by decide) (by decide) (by decide) (by decide) ?_
      refine x_aload_n dX12_count_78 rfl rfl ?_
      refine xm_geti dX12_count_79 lf_X12_152 vmi_16 ?_
      exact x_ireturn dX12_count_82 rfl rfl (hq)
    · refine x_tableIn (off := 77) (tgt := 83) dX12_count_6 (by decide) (by decide) (by decide) (by decide) ?_
      refine x_aload_n dX12_count_83 rfl rfl ?_
      refine xm_geti dX12_count_84 lf_X12_289 vmi_25 ?_
      exact x_ireturn dX12_count_87 rfl rfl (hq)
    · refine x_tableIn (off := 82) (tgt := 88) dX12_count_6 (by decide) (by decide) (by decide) (by decide) ?_
      refine x_aload_n dX12_count_88 rfl rfl ?_
      refine xm_geti dX12_count_89 lf_X12_329 vmi_44 ?_
      exact x_ireturn dX12_count_92 rfl rfl (hq)
    · refine x_tableIn (off := 87) (tgt := 93) dX12_count_6 (by decide) (by decide) (by decide) (by decide) ?_
      refine x_aload_n dX12_count_93 rfl rfl ?_
      refine xm_geti dX12_count_94 lf_X12_335 vmi_49 ?_
      exact x_ireturn dX12_count_97 rfl rfl (hq)
    · refine x_tableIn (off := 92) (tgt := 98) dX12_count_6 (by decide) (by decide) (by decide) (by decide) ?_
      refine x_aload_n dX12_count_98 rfl rfl ?_
      refine xm_geti dX12_count_99 lf_X12_369 vmi_59 ?_
      exact x_ireturn dX12_count_102 rfl rfl (hq)
    · refine x_tableIn (off := 97) (tgt := 103) dX12_count_6 (by decide) (by decide) (by decide) (by decide) ?_
      refine x_aload_n dX12_count_103 rfl rfl ?_
      refine xm_geti dX12_count_104 lf_X12_372 vmi_60 ?_
      exact x_ireturn dX12_count_107 rfl rfl (hq)
    · refine x_tableIn (off := 102) (tgt := 108) dX12_count_6 (by decide) (by decide) (by decide) (by decide) ?_
      refine x_aload_n dX12_count_108 rfl rfl ?_
      refine xm_geti dX12_count_109 lf_X12_393 vmi_65 ?_
      exact x_ireturn dX12_count_112 rfl rfl (hq)
    · refine x_tableIn (off := 107) (tgt := 113) dX12_count_6 (by decide) (by decide) (by decide) (by decide) ?_
      refine x_aload_n dX12_count_113 rfl rfl ?_
      refine xm_geti dX12_count_114 lf_X12_178 vmi_24 ?_
      exact x_ireturn dX12_count_117 rfl rfl (hq)
    · refine x_tableIn (off := 112) (tgt := 118) dX12_count_6 (by decide) (by decide) (by decide) (by decide) ?_
      refine x_iconst (v := 0) dX12_count_118 (by decide) ?_
      refine x_istore_n dX12_count_119 rfl (by decide) ?_
      refine x_iconst (v := 0) dX12_count_120 (by decide) ?_
      refine x_istore_n dX12_count_121 rfl (by decide) ?_
      refine x_loc [(0, .ref (ad 99)), (1, .int (nI 10)), (2, .int (spGone σ0 0)), (3, .int (nI 0))] ⟨rfl, rfl, rfl, rfl, trivial⟩ ?_
      refine loop_up (P := fun i => XJ G (d + 2) (0, 0) MX12_count (mm ad σ0) [(0, .ref (ad 99)), (1, .int (nI 10)), (2, .int (spGone σ0 i)), (3, .int (nI i))] [] 122 Q) (n := cn σ0 15) ?_ ?_ 0 (Nat.zero_le _)
      · refine x_iload_n dX12_count_122 rfl rfl ?_
        refine x_aload_n dX12_count_123 rfl rfl ?_
        refine xm_geti dX12_count_124 lf_X12_149 vmi_15 ?_
        refine x_icmp_ge (tgt := 156) dX12_count_127 (by decide) (fun _ => ?_) (fun z => absurd (loopT hp1) z)
        refine x_iload_n dX12_count_156 rfl rfl ?_
        exact x_ireturn dX12_count_157 rfl rfl (hq)
      · intro i hlt ih
        refine x_iload_n dX12_count_122 rfl rfl ?_
        refine x_aload_n dX12_count_123 rfl rfl ?_
        refine xm_geti dX12_count_124 lf_X12_149 vmi_15 ?_
        refine x_icmp_ge (tgt := 156) dX12_count_127 (by decide) (fun z => absurd z (loopF hp1 hlt (by omega))) (fun _ => ?_)
        refine x_iload_n dX12_count_130 rfl rfl ?_
        refine x_aload_n dX12_count_131 rfl rfl ?_
        refine x_iload_n dX12_count_132 rfl rfl ?_
        refine x_aload_n dX12_count_133 rfl rfl ?_
        refine xm_geti dX12_count_134 lf_X12_142 vmi_1 ?_
        refine x_cV2 dX12_count_137 lv_X12_366 mm_obj rfl rfl rfl  (c_X12_isStopped hi hc ?_)
        refine x_if_eq_b (tgt := 147) dX12_count_140 (by decide) (fun h140 => ?_) (fun h140 => ?_)
        · refine x_iconst (v := 0) dX12_count_147 (by decide) ?_
          refine x_iadd dX12_count_148 ?_
          refine x_istore_n dX12_count_149 rfl (by decide) ?_
          refine x_iinc (c := 1) dX12_count_150 rfl (by decide) ?_
          refine x_goto (tgt := 122) dX12_count_153 (by decide) ?_
          refine x_loc _ (?_ : lle _ _) ih
          refine ⟨rfl, rfl, ?_, ?_, trivial⟩
          · show some (Value.int _) = some (Value.int (cI (isG σ0 (nI i) (σ0.1 1) (σ0.1 1)) (spGone σ0 i + 1) (spGone σ0 i)))
            first
            | rw [cI_t h140]
            | rw [cI_f h140, Int32.add_zero]
          · show some (Value.int _) = some (Value.int (nI (i + 1)))
            rw [← nI_1]
        · refine x_iconst (v := 1) dX12_count_143 (by decide) ?_
          refine x_goto (tgt := 148) dX12_count_144 (by decide) ?_
          refine x_iadd dX12_count_148 ?_
          refine x_istore_n dX12_count_149 rfl (by decide) ?_
          refine x_iinc (c := 1) dX12_count_150 rfl (by decide) ?_
          refine x_goto (tgt := 122) dX12_count_153 (by decide) ?_
          refine x_loc _ (?_ : lle _ _) ih
          refine ⟨rfl, rfl, ?_, ?_, trivial⟩
          · show some (Value.int _) = some (Value.int (cI (isG σ0 (nI i) (σ0.1 1) (σ0.1 1)) (spGone σ0 i + 1) (spGone σ0 i)))
            first
            | rw [cI_t h140]
            | rw [cI_f h140, Int32.add_zero]
          · show some (Value.int _) = some (Value.int (nI (i + 1)))
            rw [← nI_1]
    · refine x_tableIn (off := 152) (tgt := 158) dX12_count_6 (by decide) (by decide) (by decide) (by decide) ?_
      refine x_aload_n dX12_count_158 rfl rfl ?_
      refine x_cV0 dX12_count_159 lv_X12_345 mm_obj rfl rfl rfl  (c_X12_people hi ?_)
      exact x_ireturn dX12_count_162 rfl rfl (hq)
  · refine x_tableOut (tgt := 163) dX12_count_6 (by rw [Int32.le_iff_toInt_le, Int32.le_iff_toInt_le] at hw; have e1 : (0 : Int32).toInt = 0 := rfl; have e2 : (11 : Int32).toInt = 11 := rfl; rw [e1, e2] at hw; omega) (by decide) ?_
    have hne : ∀ j, j < 12 → w ≠ nI j := by
      intro j hj e
      refine hw ⟨by rw [e]; exact nI_pos' (by omega), by rw [e]; exact nI_le (b := 11) (by omega) (by decide)⟩
    refine x_iconst (v := -1) dX12_count_163 (by decide) ?_
    exact x_ireturn dX12_count_164 rfl rfl (by
unfold aCount at hq
rw [if_neg (show ¬ w = 0 from hne 0 (by omega)), if_neg (show ¬ w = 1 from hne 1 (by omega)), if_neg (show ¬ w = 2 from hne 2 (by omega)), if_neg (show ¬ w = 3 from hne 3 (by omega)), if_neg (show ¬ w = 4 from hne 4 (by omega)), if_neg (show ¬ w = 5 from hne 5 (by omega)), if_neg (show ¬ w = 6 from hne 6 (by omega)), if_neg (show ¬ w = 7 from hne 7 (by omega)), if_neg (show ¬ w = 8 from hne 8 (by omega)), if_neg (show ¬ w = 9 from hne 9 (by omega)), if_neg (show ¬ w = 10 from hne 10 (by omega)), if_neg (show ¬ w = 11 from hne 11 (by omega))] at hq
exact hq)
theorem c_X12_buy {coin : Int32} (hi : adOK ad) (h0 : seti σ 0 0 = σ0) (hc : Cnt σ0) (hq : Q (some (.int (aBuy σ0 coin))) (mm ad σ0)) : CT G (d + 2) (0, 0) MX12_buy [.ref (ad 99), .int coin] (mm ad σ) Q := by
  obtain ⟨hp1, hp2⟩ := hc.b 65 (b := 8) (by decide)
  have hpow : 2 ^ cn σ0 65 ≤ 256 := Nat.le_trans (Nat.pow_le_pow_right (n := 2) (by decide) hp2) (by decide)
  have hpow1 : 1 ≤ 2 ^ cn σ0 65 := Nat.one_le_two_pow
  have hsh : (1 : Int32) <<< (σ0.1 65 &&& 31) = nI (2 ^ cn σ0 65 - 1 + 1) := by
    rw [hp1, Nat.sub_add_cancel hpow1]
    generalize cn σ0 65 = n at hp2
    have : n = 0 ∨ n = 1 ∨ n = 2 ∨ n = 3 ∨ n = 4 ∨ n = 5 ∨ n = 6 ∨ n = 7 ∨ n = 8 := by omega
    rcases this with rfl | rfl | rfl | rfl | rfl | rfl | rfl | rfl | rfl <;> decide
  refine CT.of rfl (Nat.le_of_ble_eq_true rfl) ?_
  refine x_aload_n dX12_buy_0 rfl rfl ?_
  refine x_iconst (v := 0) dX12_buy_1 (by decide) ?_
  refine xm_puti dX12_buy_2 lp_X12_138 vmq_0 vmn_0 vmf_0 ?_
  rw [h0]
  refine x_iload_n dX12_buy_5 rfl rfl ?_
  refine x_iconst (v := 0) dX12_buy_6 (by decide) ?_
  refine x_sipush (v := 400) dX12_buy_7 (by decide) ?_
  refine x_cS3 dX12_buy_10 ls_X12_145 rfl  (c_X12_isIn ?_)
  refine x_if_ne_b (tgt := 18) dX12_buy_13 (by decide) (fun h13 => ?_) (fun h13 => ?_)
  · have hq := fan_t hq h13
    refine x_iconst (v := 0) dX12_buy_18 (by decide) ?_
    refine x_istore_n dX12_buy_19 rfl (by decide) ?_
    refine x_iconst (v := 1) dX12_buy_20 (by decide) ?_
    refine x_istore_n dX12_buy_21 rfl (by decide) ?_
    refine x_loc [(0, .ref (ad 99)), (1, .int coin), (2, .int (spBuy σ0 coin 0)), (3, .int (nI (0 + 1)))] ⟨rfl, rfl, rfl, rfl, trivial⟩ ?_
    refine loop_up (P := fun i => XJ G (d + 2) (0, 0) MX12_buy (mm ad σ0) [(0, .ref (ad 99)), (1, .int coin), (2, .int (spBuy σ0 coin i)), (3, .int (nI (i + 1)))] [] 22 Q) (n := 2 ^ cn σ0 65 - 1) ?_ ?_ 0 (Nat.zero_le _)
    · refine x_iload_n dX12_buy_22 rfl rfl ?_
      refine x_iconst (v := 1) dX12_buy_23 (by decide) ?_
      refine x_aload_n dX12_buy_24 rfl rfl ?_
      refine xm_geti dX12_buy_25 lf_X12_393 vmi_65 ?_
      refine x_ishl dX12_buy_28 ?_
      refine x_icmp_ge (tgt := 110) dX12_buy_29 (by decide) (fun _ => ?_) (fun z => absurd (by rw [hsh]; exact Int32.le_refl _) z)
      refine x_iload_n dX12_buy_110 rfl rfl ?_
      exact x_ireturn dX12_buy_111 rfl rfl (hq)
    · intro i hlt ih
      refine x_iload_n dX12_buy_22 rfl rfl ?_
      refine x_iconst (v := 1) dX12_buy_23 (by decide) ?_
      refine x_aload_n dX12_buy_24 rfl rfl ?_
      refine xm_geti dX12_buy_25 lf_X12_393 vmi_65 ?_
      refine x_ishl dX12_buy_28 ?_
      refine x_icmp_ge (tgt := 110) dX12_buy_29 (by decide) (fun z => absurd z (by rw [hsh]; exact Int32.not_le.mpr (nI_lt (by omega) (by omega)))) (fun _ => ?_)
      refine x_aload_n dX12_buy_32 rfl rfl ?_
      refine x_iload_n dX12_buy_33 rfl rfl ?_
      refine x_cV1 dX12_buy_34 lv_X12_396 mm_obj rfl rfl rfl  (c_X12_priceOf hi hc ?_)
      refine x_iload_n dX12_buy_37 rfl rfl ?_
      refine x_icmp_le (tgt := 44) dX12_buy_38 (by decide) (fun h38 => ?_) (fun h38 => ?_)
      · refine x_aload_n dX12_buy_44 rfl rfl ?_
        refine x_iload_n dX12_buy_45 rfl rfl ?_
        refine x_cV1 dX12_buy_46 lv_X12_399 mm_obj rfl rfl rfl  (c_X12_sortsOf hi hc ?_)
        refine x_aload_n dX12_buy_49 rfl rfl ?_
        refine x_iload_n dX12_buy_50 rfl rfl ?_
        refine x_cV1 dX12_buy_51 lv_X12_399 mm_obj rfl rfl rfl  (c_X12_sortsOf hi hc ?_)
        refine x_isub dX12_buy_54 ?_
        refine x_istore dX12_buy_55 (by decide) ?_
        refine x_iload dX12_buy_57 rfl ?_
        refine x_if_ne (tgt := 75) dX12_buy_59 (by decide) (fun h59 => ?_) (fun h59 => ?_)
        · refine x_iload_n dX12_buy_75 rfl rfl ?_
          refine x_iload_n dX12_buy_76 rfl rfl ?_
          refine x_ixor dX12_buy_77 ?_
          refine x_iload_n dX12_buy_78 rfl rfl ?_
          refine x_iload_n dX12_buy_79 rfl rfl ?_
          refine x_ixor dX12_buy_80 ?_
          refine x_ineg dX12_buy_81 ?_
          refine x_iand dX12_buy_82 ?_
          refine x_istore dX12_buy_83 (by decide) ?_
          refine x_iload dX12_buy_85 rfl ?_
          refine x_if_gt (tgt := 102) dX12_buy_87 (by decide) (fun h87 => ?_) (fun h87 => ?_)
          · refine x_iload_n dX12_buy_102 rfl rfl ?_
            refine x_istore_n dX12_buy_103 rfl (by decide) ?_
            refine x_iinc (c := 1) dX12_buy_104 rfl (by decide) ?_
            refine x_goto (tgt := 22) dX12_buy_107 (by decide) ?_
            refine x_loc _ (?_ : lle _ _) ih
            refine ⟨rfl, rfl, ?_, congrArg some (congrArg Value.int (nI_1 _)), trivial⟩
            show some (Value.int _) = some (Value.int (cI (spPrice σ0 (nI (i + 1)) (cn σ0 65) ≤ coin ∧ bett σ0 (nI (i + 1)) (spBuy σ0 coin i)) (nI (i + 1)) (spBuy σ0 coin i)))
            first
            | exact absurd h92 h59
            | rw [cI_t (by clear ih hq; unfold bett; grind)]
            | rw [cI_f (by clear ih hq; unfold bett; grind)]
          · refine x_iload dX12_buy_90 rfl ?_
            refine x_if_ne (tgt := 104) dX12_buy_92 (by decide) (fun h92 => ?_) (fun h92 => ?_)
            · refine x_iinc (c := 1) dX12_buy_104 rfl (by decide) ?_
              refine x_goto (tgt := 22) dX12_buy_107 (by decide) ?_
              refine x_loc _ (?_ : lle _ _) ih
              refine ⟨rfl, rfl, ?_, congrArg some (congrArg Value.int (nI_1 _)), trivial⟩
              show some (Value.int _) = some (Value.int (cI (spPrice σ0 (nI (i + 1)) (cn σ0 65) ≤ coin ∧ bett σ0 (nI (i + 1)) (spBuy σ0 coin i)) (nI (i + 1)) (spBuy σ0 coin i)))
              first
              | exact absurd h92 h59
              | rw [cI_t (by clear ih hq; unfold bett; grind)]
              | rw [cI_f (by clear ih hq; unfold bett; grind)]
            · refine x_iload_n dX12_buy_95 rfl rfl ?_
              refine x_iload dX12_buy_96 rfl ?_
              refine x_iand dX12_buy_98 ?_
              refine x_if_eq (tgt := 104) dX12_buy_99 (by decide) (fun h99 => ?_) (fun h99 => ?_)
              · refine x_iinc (c := 1) dX12_buy_104 rfl (by decide) ?_
                refine x_goto (tgt := 22) dX12_buy_107 (by decide) ?_
                refine x_loc _ (?_ : lle _ _) ih
                refine ⟨rfl, rfl, ?_, congrArg some (congrArg Value.int (nI_1 _)), trivial⟩
                show some (Value.int _) = some (Value.int (cI (spPrice σ0 (nI (i + 1)) (cn σ0 65) ≤ coin ∧ bett σ0 (nI (i + 1)) (spBuy σ0 coin i)) (nI (i + 1)) (spBuy σ0 coin i)))
                first
                | exact absurd h92 h59
                | rw [cI_t (by clear ih hq; unfold bett; grind)]
                | rw [cI_f (by clear ih hq; unfold bett; grind)]
              · refine x_iload_n dX12_buy_102 rfl rfl ?_
                refine x_istore_n dX12_buy_103 rfl (by decide) ?_
                refine x_iinc (c := 1) dX12_buy_104 rfl (by decide) ?_
                refine x_goto (tgt := 22) dX12_buy_107 (by decide) ?_
                refine x_loc _ (?_ : lle _ _) ih
                refine ⟨rfl, rfl, ?_, congrArg some (congrArg Value.int (nI_1 _)), trivial⟩
                show some (Value.int _) = some (Value.int (cI (spPrice σ0 (nI (i + 1)) (cn σ0 65) ≤ coin ∧ bett σ0 (nI (i + 1)) (spBuy σ0 coin i)) (nI (i + 1)) (spBuy σ0 coin i)))
                first
                | exact absurd h92 h59
                | rw [cI_t (by clear ih hq; unfold bett; grind)]
                | rw [cI_f (by clear ih hq; unfold bett; grind)]
        · refine x_aload_n dX12_buy_62 rfl rfl ?_
          refine x_iload_n dX12_buy_63 rfl rfl ?_
          refine x_cV1 dX12_buy_64 lv_X12_396 mm_obj rfl rfl rfl  (c_X12_priceOf hi hc ?_)
          refine x_aload_n dX12_buy_67 rfl rfl ?_
          refine x_iload_n dX12_buy_68 rfl rfl ?_
          refine x_cV1 dX12_buy_69 lv_X12_396 mm_obj rfl rfl rfl  (c_X12_priceOf hi hc ?_)
          refine x_isub dX12_buy_72 ?_
          refine x_istore dX12_buy_73 (by decide) ?_
          refine x_iload_n dX12_buy_75 rfl rfl ?_
          refine x_iload_n dX12_buy_76 rfl rfl ?_
          refine x_ixor dX12_buy_77 ?_
          refine x_iload_n dX12_buy_78 rfl rfl ?_
          refine x_iload_n dX12_buy_79 rfl rfl ?_
          refine x_ixor dX12_buy_80 ?_
          refine x_ineg dX12_buy_81 ?_
          refine x_iand dX12_buy_82 ?_
          refine x_istore dX12_buy_83 (by decide) ?_
          refine x_iload dX12_buy_85 rfl ?_
          refine x_if_gt (tgt := 102) dX12_buy_87 (by decide) (fun h87 => ?_) (fun h87 => ?_)
          · refine x_iload_n dX12_buy_102 rfl rfl ?_
            refine x_istore_n dX12_buy_103 rfl (by decide) ?_
            refine x_iinc (c := 1) dX12_buy_104 rfl (by decide) ?_
            refine x_goto (tgt := 22) dX12_buy_107 (by decide) ?_
            refine x_loc _ (?_ : lle _ _) ih
            refine ⟨rfl, rfl, ?_, congrArg some (congrArg Value.int (nI_1 _)), trivial⟩
            show some (Value.int _) = some (Value.int (cI (spPrice σ0 (nI (i + 1)) (cn σ0 65) ≤ coin ∧ bett σ0 (nI (i + 1)) (spBuy σ0 coin i)) (nI (i + 1)) (spBuy σ0 coin i)))
            first
            | exact absurd h92 h59
            | rw [cI_t (by clear ih hq; unfold bett; grind)]
            | rw [cI_f (by clear ih hq; unfold bett; grind)]
          · refine x_iload dX12_buy_90 rfl ?_
            refine x_if_ne (tgt := 104) dX12_buy_92 (by decide) (fun h92 => ?_) (fun h92 => ?_)
            · refine x_iinc (c := 1) dX12_buy_104 rfl (by decide) ?_
              refine x_goto (tgt := 22) dX12_buy_107 (by decide) ?_
              refine x_loc _ (?_ : lle _ _) ih
              refine ⟨rfl, rfl, ?_, congrArg some (congrArg Value.int (nI_1 _)), trivial⟩
              show some (Value.int _) = some (Value.int (cI (spPrice σ0 (nI (i + 1)) (cn σ0 65) ≤ coin ∧ bett σ0 (nI (i + 1)) (spBuy σ0 coin i)) (nI (i + 1)) (spBuy σ0 coin i)))
              first
              | exact absurd h92 h59
              | rw [cI_t (by clear ih hq; unfold bett; grind)]
              | rw [cI_f (by clear ih hq; unfold bett; grind)]
            · refine x_iload_n dX12_buy_95 rfl rfl ?_
              refine x_iload dX12_buy_96 rfl ?_
              refine x_iand dX12_buy_98 ?_
              refine x_if_eq (tgt := 104) dX12_buy_99 (by decide) (fun h99 => ?_) (fun h99 => ?_)
              · refine x_iinc (c := 1) dX12_buy_104 rfl (by decide) ?_
                refine x_goto (tgt := 22) dX12_buy_107 (by decide) ?_
                refine x_loc _ (?_ : lle _ _) ih
                refine ⟨rfl, rfl, ?_, congrArg some (congrArg Value.int (nI_1 _)), trivial⟩
                show some (Value.int _) = some (Value.int (cI (spPrice σ0 (nI (i + 1)) (cn σ0 65) ≤ coin ∧ bett σ0 (nI (i + 1)) (spBuy σ0 coin i)) (nI (i + 1)) (spBuy σ0 coin i)))
                first
                | exact absurd h92 h59
                | rw [cI_t (by clear ih hq; unfold bett; grind)]
                | rw [cI_f (by clear ih hq; unfold bett; grind)]
              · refine x_iload_n dX12_buy_102 rfl rfl ?_
                refine x_istore_n dX12_buy_103 rfl (by decide) ?_
                refine x_iinc (c := 1) dX12_buy_104 rfl (by decide) ?_
                refine x_goto (tgt := 22) dX12_buy_107 (by decide) ?_
                refine x_loc _ (?_ : lle _ _) ih
                refine ⟨rfl, rfl, ?_, congrArg some (congrArg Value.int (nI_1 _)), trivial⟩
                show some (Value.int _) = some (Value.int (cI (spPrice σ0 (nI (i + 1)) (cn σ0 65) ≤ coin ∧ bett σ0 (nI (i + 1)) (spBuy σ0 coin i)) (nI (i + 1)) (spBuy σ0 coin i)))
                first
                | exact absurd h92 h59
                | rw [cI_t (by clear ih hq; unfold bett; grind)]
                | rw [cI_f (by clear ih hq; unfold bett; grind)]
      · refine x_goto (tgt := 104) dX12_buy_41 (by decide) ?_
        refine x_iinc (c := 1) dX12_buy_104 rfl (by decide) ?_
        refine x_goto (tgt := 22) dX12_buy_107 (by decide) ?_
        refine x_loc _ (?_ : lle _ _) ih
        refine ⟨rfl, rfl, ?_, congrArg some (congrArg Value.int (nI_1 _)), trivial⟩
        show some (Value.int _) = some (Value.int (cI (spPrice σ0 (nI (i + 1)) (cn σ0 65) ≤ coin ∧ bett σ0 (nI (i + 1)) (spBuy σ0 coin i)) (nI (i + 1)) (spBuy σ0 coin i)))
        first
        | exact absurd h92 h59
        | rw [cI_t (by clear ih hq; unfold bett; grind)]
        | rw [cI_f (by clear ih hq; unfold bett; grind)]
  · refine x_iconst (v := -1) dX12_buy_16 (by decide) ?_
    exact x_ireturn dX12_buy_17 rfl rfl (fan_f hq h13)
theorem c_X12_hide {m : Int32} (hi : adOK ad) (h0 : seti σ 0 0 = σ0) (hc : Cnt σ0) (hq : Q (some (.int (aHide σ0 m))) (mm ad σ0)) : CT G (d + 2) (0, 0) MX12_hide [.ref (ad 99), .int m] (mm ad σ) Q := by
  obtain ⟨hp1, hp2⟩ := hc.b 15 (b := 24) (by decide)
  refine CT.of rfl (Nat.le_of_ble_eq_true rfl) ?_
  refine x_aload_n dX12_hide_0 rfl rfl ?_
  refine x_iconst (v := 0) dX12_hide_1 (by decide) ?_
  refine xm_puti dX12_hide_2 lp_X12_138 vmq_0 vmn_0 vmf_0 ?_
  rw [h0]
  refine x_iload_n dX12_hide_5 rfl rfl ?_
  refine x_iconst (v := 1) dX12_hide_6 (by decide) ?_
  refine x_icmp_ge (tgt := 12) dX12_hide_7 (by decide) (fun h7 => ?_) (fun h7 => ?_)
  · have hq := fan_t hq h7
    refine x_iconst (v := -1) dX12_hide_12 (by decide) ?_
    refine x_istore_n dX12_hide_13 rfl (by decide) ?_
    refine x_iconst (v := 0) dX12_hide_14 (by decide) ?_
    refine x_istore_n dX12_hide_15 rfl (by decide) ?_
    refine x_loc [(0, .ref (ad 99)), (1, .int m), (2, .int (spHide σ0 m 0)), (3, .int (nI 0))] ⟨rfl, rfl, rfl, rfl, trivial⟩ ?_
    refine loop_up (P := fun i => XJ G (d + 2) (0, 0) MX12_hide (mm ad σ0) [(0, .ref (ad 99)), (1, .int m), (2, .int (spHide σ0 m i)), (3, .int (nI i))] [] 16 Q) (n := 8) ?_ ?_ 0 (Nat.zero_le _)
    · refine x_iload_n dX12_hide_16 rfl rfl ?_
      refine x_bipush (v := 8) dX12_hide_17 (by decide) ?_
      refine x_icmp_ge (tgt := 100) dX12_hide_19 (by decide) (fun _ => ?_) (fun z => absurd (loopT (show (8 : Int32) = nI 8 from rfl)) z)
      refine x_iload_n dX12_hide_100 rfl rfl ?_
      exact x_ireturn dX12_hide_101 rfl rfl (hq)
    · intro i hlt ih
      refine x_iload_n dX12_hide_16 rfl rfl ?_
      refine x_bipush (v := 8) dX12_hide_17 (by decide) ?_
      refine x_icmp_ge (tgt := 100) dX12_hide_19 (by decide) (fun z => absurd z (loopF (show (8 : Int32) = nI 8 from rfl) hlt (by omega))) (fun _ => ?_)
      refine x_iconst (v := 1) dX12_hide_22 (by decide) ?_
      refine x_istore dX12_hide_23 (by decide) ?_
      refine x_iconst (v := 0) dX12_hide_25 (by decide) ?_
      refine x_istore dX12_hide_26 (by decide) ?_
      refine x_loc [(0, .ref (ad 99)), (1, .int m), (2, .int (spHide σ0 m i)), (3, .int (nI i)), (4, .int (bI (allA σ0 m (7 &&& (nI i ^^^ -1)) 0))), (5, .int (nI 0))] ⟨rfl, rfl, rfl, rfl, congrArg some (congrArg Value.int (bI_t (fun p hp => absurd hp (Nat.not_lt_zero _))).symm), rfl, trivial⟩ ?_
      refine loop_up (P := fun j => XJ G (d + 2) (0, 0) MX12_hide (mm ad σ0) [(0, .ref (ad 99)), (1, .int m), (2, .int (spHide σ0 m i)), (3, .int (nI i)), (4, .int (bI (allA σ0 m (7 &&& (nI i ^^^ -1)) j))), (5, .int (nI j))] [] 28 Q) (n := cn σ0 15) ?_ ?_ 0 (Nat.zero_le _)
      · refine x_iload dX12_hide_28 rfl ?_
        refine x_aload_n dX12_hide_30 rfl rfl ?_
        refine xm_geti dX12_hide_31 lf_X12_149 vmi_15 ?_
        refine x_icmp_ge (tgt := 71) dX12_hide_34 (by decide) (fun _ => ?_) (fun z => absurd (loopT hp1) z)
        refine x_iload dX12_hide_71 rfl ?_
        refine x_if_eq_b (tgt := 94) dX12_hide_73 (by decide) (fun h73 => ?_) (fun h73 => ?_)
        · refine x_iinc (c := 1) dX12_hide_94 rfl (by decide) ?_
          refine x_goto (tgt := 16) dX12_hide_97 (by decide) ?_
          refine x_loc _ (?_ : lle _ _) ih
          refine ⟨rfl, rfl, ?_, congrArg some (congrArg Value.int (nI_1 _)), trivial⟩
          show some (Value.int _) = some (Value.int (cI (allA σ0 m (7 &&& (nI i ^^^ -1)) (cn σ0 15) ∧ (spHide σ0 m i = -1 ∨ bitc (nI i) < bitc (spHide σ0 m i))) (nI i) (spHide σ0 m i)))
          first
          | rw [cI_t (by clear ih hq; grind)]
          | rw [cI_f (by clear ih hq; grind)]
        · refine x_iload_n dX12_hide_76 rfl rfl ?_
          refine x_iconst (v := -1) dX12_hide_77 (by decide) ?_
          refine x_icmp_eq (tgt := 92) dX12_hide_78 (by decide) (fun h78 => ?_) (fun h78 => ?_)
          · refine x_iload_n dX12_hide_92 rfl rfl ?_
            refine x_istore_n dX12_hide_93 rfl (by decide) ?_
            refine x_iinc (c := 1) dX12_hide_94 rfl (by decide) ?_
            refine x_goto (tgt := 16) dX12_hide_97 (by decide) ?_
            refine x_loc _ (?_ : lle _ _) ih
            refine ⟨rfl, rfl, ?_, congrArg some (congrArg Value.int (nI_1 _)), trivial⟩
            show some (Value.int _) = some (Value.int (cI (allA σ0 m (7 &&& (nI i ^^^ -1)) (cn σ0 15) ∧ (spHide σ0 m i = -1 ∨ bitc (nI i) < bitc (spHide σ0 m i))) (nI i) (spHide σ0 m i)))
            first
            | rw [cI_t (by clear ih hq; grind)]
            | rw [cI_f (by clear ih hq; grind)]
          · refine x_iload_n dX12_hide_81 rfl rfl ?_
            refine x_cS1 dX12_hide_82 ls_X12_388 rfl  (c_J6_bitCount_0f7a4 ?_)
            refine x_iload_n dX12_hide_85 rfl rfl ?_
            refine x_cS1 dX12_hide_86 ls_X12_388 rfl  (c_J6_bitCount_0f7a4 ?_)
            refine x_icmp_ge (tgt := 94) dX12_hide_89 (by decide) (fun h89 => ?_) (fun h89 => ?_)
            · refine x_iinc (c := 1) dX12_hide_94 rfl (by decide) ?_
              refine x_goto (tgt := 16) dX12_hide_97 (by decide) ?_
              refine x_loc _ (?_ : lle _ _) ih
              refine ⟨rfl, rfl, ?_, congrArg some (congrArg Value.int (nI_1 _)), trivial⟩
              show some (Value.int _) = some (Value.int (cI (allA σ0 m (7 &&& (nI i ^^^ -1)) (cn σ0 15) ∧ (spHide σ0 m i = -1 ∨ bitc (nI i) < bitc (spHide σ0 m i))) (nI i) (spHide σ0 m i)))
              first
              | rw [cI_t (by clear ih hq; grind)]
              | rw [cI_f (by clear ih hq; grind)]
            · refine x_iload_n dX12_hide_92 rfl rfl ?_
              refine x_istore_n dX12_hide_93 rfl (by decide) ?_
              refine x_iinc (c := 1) dX12_hide_94 rfl (by decide) ?_
              refine x_goto (tgt := 16) dX12_hide_97 (by decide) ?_
              refine x_loc _ (?_ : lle _ _) ih
              refine ⟨rfl, rfl, ?_, congrArg some (congrArg Value.int (nI_1 _)), trivial⟩
              show some (Value.int _) = some (Value.int (cI (allA σ0 m (7 &&& (nI i ^^^ -1)) (cn σ0 15) ∧ (spHide σ0 m i = -1 ∨ bitc (nI i) < bitc (spHide σ0 m i))) (nI i) (spHide σ0 m i)))
              first
              | rw [cI_t (by clear ih hq; grind)]
              | rw [cI_f (by clear ih hq; grind)]
      · intro j hltj ihj
        refine x_iload dX12_hide_28 rfl ?_
        refine x_aload_n dX12_hide_30 rfl rfl ?_
        refine xm_geti dX12_hide_31 lf_X12_149 vmi_15 ?_
        refine x_icmp_ge (tgt := 71) dX12_hide_34 (by decide) (fun z => absurd z (loopF hp1 hltj (by omega))) (fun _ => ?_)
        refine x_iload dX12_hide_37 rfl ?_
        refine x_if_eq_b (tgt := 62) dX12_hide_39 (by decide) (fun h39 => ?_) (fun h39 => ?_)
        · refine x_iconst (v := 0) dX12_hide_62 (by decide) ?_
          refine x_istore dX12_hide_63 (by decide) ?_
          refine x_iinc (c := 1) dX12_hide_65 rfl (by decide) ?_
          refine x_goto (tgt := 28) dX12_hide_68 (by decide) ?_
          refine x_loc _ (?_ : lle _ _) ihj
          refine ⟨rfl, rfl, rfl, rfl, ?_, ?_, trivial⟩
          · show some (Value.int _) = some (Value.int (bI (allA σ0 m (7 &&& (nI i ^^^ -1)) (j + 1))))
            first
            | rw [bI_f (fun z => h39 (fun p hp => z p (by omega)))]
            | rw [bI_f (fun z => absurd h55 (Int32.not_lt.mpr (z j (by omega))))]
            | rw [bI_t (show allA σ0 m (7 &&& (nI i ^^^ -1)) (j + 1) from fun p hp => (Nat.lt_succ_iff_lt_or_eq.mp hp).elim (fun h => h39 p h) (fun h => by rw [h]; exact Int32.not_lt.mp h55))]
          · show some (Value.int _) = some (Value.int (nI (j + 1)))
            rw [← nI_1]
        · refine x_aload_n dX12_hide_42 rfl rfl ?_
          refine x_iload dX12_hide_43 rfl ?_
          refine x_bipush (v := 7) dX12_hide_45 (by decide) ?_
          refine x_iload_n dX12_hide_47 rfl rfl ?_
          refine x_iconst (v := -1) dX12_hide_48 (by decide) ?_
          refine x_ixor dX12_hide_49 ?_
          refine x_iand dX12_hide_50 ?_
          refine x_cV2 dX12_hide_51 lv_X12_385 mm_obj rfl rfl rfl  (c_X12_alikeOf hi hc rfl hltj ?_)
          refine x_iload_n dX12_hide_54 rfl rfl ?_
          refine x_icmp_lt (tgt := 62) dX12_hide_55 (by decide) (fun h55 => ?_) (fun h55 => ?_)
          · refine x_iconst (v := 0) dX12_hide_62 (by decide) ?_
            refine x_istore dX12_hide_63 (by decide) ?_
            refine x_iinc (c := 1) dX12_hide_65 rfl (by decide) ?_
            refine x_goto (tgt := 28) dX12_hide_68 (by decide) ?_
            refine x_loc _ (?_ : lle _ _) ihj
            refine ⟨rfl, rfl, rfl, rfl, ?_, ?_, trivial⟩
            · show some (Value.int _) = some (Value.int (bI (allA σ0 m (7 &&& (nI i ^^^ -1)) (j + 1))))
              first
              | rw [bI_f (fun z => h39 (fun p hp => z p (by omega)))]
              | rw [bI_f (fun z => absurd h55 (Int32.not_lt.mpr (z j (by omega))))]
              | rw [bI_t (show allA σ0 m (7 &&& (nI i ^^^ -1)) (j + 1) from fun p hp => (Nat.lt_succ_iff_lt_or_eq.mp hp).elim (fun h => h39 p h) (fun h => by rw [h]; exact Int32.not_lt.mp h55))]
            · show some (Value.int _) = some (Value.int (nI (j + 1)))
              rw [← nI_1]
          · refine x_iconst (v := 1) dX12_hide_58 (by decide) ?_
            refine x_goto (tgt := 63) dX12_hide_59 (by decide) ?_
            refine x_istore dX12_hide_63 (by decide) ?_
            refine x_iinc (c := 1) dX12_hide_65 rfl (by decide) ?_
            refine x_goto (tgt := 28) dX12_hide_68 (by decide) ?_
            refine x_loc _ (?_ : lle _ _) ihj
            refine ⟨rfl, rfl, rfl, rfl, ?_, ?_, trivial⟩
            · show some (Value.int _) = some (Value.int (bI (allA σ0 m (7 &&& (nI i ^^^ -1)) (j + 1))))
              first
              | rw [bI_f (fun z => h39 (fun p hp => z p (by omega)))]
              | rw [bI_f (fun z => absurd h55 (Int32.not_lt.mpr (z j (by omega))))]
              | rw [bI_t (show allA σ0 m (7 &&& (nI i ^^^ -1)) (j + 1) from fun p hp => (Nat.lt_succ_iff_lt_or_eq.mp hp).elim (fun h => h39 p h) (fun h => by rw [h]; exact Int32.not_lt.mp h55))]
            · show some (Value.int _) = some (Value.int (nI (j + 1)))
              rw [← nI_1]
  · refine x_iconst (v := -1) dX12_hide_10 (by decide) ?_
    exact x_ireturn dX12_hide_11 rfl rfl (fan_f hq h7)
end MDD
