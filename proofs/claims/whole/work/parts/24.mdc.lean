/-! numbers of the JDK; the model's methods, 3 -/
section MDC
variable {G : Gam} {d : Nat} {k : Nat × Nat} {ad : Nat → Nat} {σ σ0 : MS} {M : Mem} {Q : Option Value → Mem → Prop}
theorem c_J9_abs_0f7a4 {x : Int32} (hq : Q (some (.int (iabs x))) M) : CT G d (0, 0) MJ9_abs_0f7a4 [.int x] M Q := by
  refine CT.ofF (by decide +kernel) (Nat.le_of_ble_eq_true rfl) ?_
  refine x_iload_n dJ9_abs_0f7a4_0 rfl rfl ?_
  refine x_if_ge (tgt := 9) dJ9_abs_0f7a4_1 (by decide) (fun h1 => ?_) (fun h1 => ?_)
  · refine x_iload_n dJ9_abs_0f7a4_9 rfl rfl ?_
    exact x_ireturn dJ9_abs_0f7a4_10 rfl rfl (fin hq (by first | exact if_pos h1 | exact if_neg h1))
  · refine x_iload_n dJ9_abs_0f7a4_4 rfl rfl ?_
    refine x_ineg dJ9_abs_0f7a4_5 ?_
    refine x_goto (tgt := 10) dJ9_abs_0f7a4_6 (by decide) ?_
    exact x_ireturn dJ9_abs_0f7a4_10 rfl rfl (fin hq (by first | exact if_pos h1 | exact if_neg h1))
theorem c_J9_abs_067f4 {x : Int64} (hq : Q (some (.long (labs x))) M) : CT G d (0, 0) MJ9_abs_067f4 [.long x] M Q := by
  unfold labs at hq
  refine CT.ofF (by decide +kernel) (Nat.le_of_ble_eq_true rfl) ?_
  refine x_lload_n dJ9_abs_067f4_0 rfl rfl ?_
  refine x_lconst (v := 0) dJ9_abs_067f4_1 (by decide) ?_
  refine x_lcmp dJ9_abs_067f4_2 ?_
  refine x_if_ge (tgt := 11) dJ9_abs_067f4_3 (by decide) (fun h3 => ?_) (fun h3 => ?_)
  · refine x_lload_n dJ9_abs_067f4_11 rfl rfl ?_
    exact x_lreturn dJ9_abs_067f4_12 rfl (by first | (rw [if_pos h3] at hq; exact hq) | (rw [if_neg h3] at hq; exact hq))
  · refine x_lload_n dJ9_abs_067f4_6 rfl rfl ?_
    refine x_lneg dJ9_abs_067f4_7 ?_
    refine x_goto (tgt := 12) dJ9_abs_067f4_8 (by decide) ?_
    exact x_lreturn dJ9_abs_067f4_12 rfl (by first | (rw [if_pos h3] at hq; exact hq) | (rw [if_neg h3] at hq; exact hq))
theorem c_J9_max_7cf53 {x y : Int32} (hq : Q (some (.int (if x < y then y else x))) M) : CT G d (0, 0) MJ9_max_7cf53 [.int x, .int y] M Q := by
  refine CT.ofF (by decide +kernel) (Nat.le_of_ble_eq_true rfl) ?_
  refine x_iload_n dJ9_max_7cf53_0 rfl rfl ?_
  refine x_iload_n dJ9_max_7cf53_1 rfl rfl ?_
  refine x_icmp_lt (tgt := 9) dJ9_max_7cf53_2 (by decide) (fun h2 => ?_) (fun h2 => ?_)
  · refine x_iload_n dJ9_max_7cf53_9 rfl rfl ?_
    exact x_ireturn dJ9_max_7cf53_10 rfl rfl (fin hq (by first | exact if_pos h2 | exact if_neg h2))
  · refine x_iload_n dJ9_max_7cf53_5 rfl rfl ?_
    refine x_goto (tgt := 10) dJ9_max_7cf53_6 (by decide) ?_
    exact x_ireturn dJ9_max_7cf53_10 rfl rfl (fin hq (by first | exact if_pos h2 | exact if_neg h2))
theorem c_J9_min_7cf53 {x y : Int32} (hq : Q (some (.int (if y < x then y else x))) M) : CT G d (0, 0) MJ9_min_7cf53 [.int x, .int y] M Q := by
  refine CT.ofF (by decide +kernel) (Nat.le_of_ble_eq_true rfl) ?_
  refine x_iload_n dJ9_min_7cf53_0 rfl rfl ?_
  refine x_iload_n dJ9_min_7cf53_1 rfl rfl ?_
  refine x_icmp_gt (tgt := 9) dJ9_min_7cf53_2 (by decide) (fun h2 => ?_) (fun h2 => ?_)
  · refine x_iload_n dJ9_min_7cf53_9 rfl rfl ?_
    exact x_ireturn dJ9_min_7cf53_10 rfl rfl (fin hq (by first | exact if_pos h2 | exact if_neg h2))
  · refine x_iload_n dJ9_min_7cf53_5 rfl rfl ?_
    refine x_goto (tgt := 10) dJ9_min_7cf53_6 (by decide) ?_
    exact x_ireturn dJ9_min_7cf53_10 rfl rfl (fin hq (by first | exact if_pos h2 | exact if_neg h2))
theorem c_J9_max_f86c9 {x y : Int64} (hq : Q (some (.long (if lg_cmp x y < 0 then y else x))) M) : CT G d (0, 0) MJ9_max_f86c9 [.long x, .long y] M Q := by
  refine CT.ofF (by decide +kernel) (Nat.le_of_ble_eq_true rfl) ?_
  refine x_lload_n dJ9_max_f86c9_0 rfl rfl ?_
  refine x_lload_n dJ9_max_f86c9_1 rfl rfl ?_
  refine x_lcmp dJ9_max_f86c9_2 ?_
  refine x_if_lt (tgt := 10) dJ9_max_f86c9_3 (by decide) (fun h3 => ?_) (fun h3 => ?_)
  · refine x_lload_n dJ9_max_f86c9_10 rfl rfl ?_
    exact x_lreturn dJ9_max_f86c9_11 rfl (by first | (rw [if_pos h3] at hq; exact hq) | (rw [if_neg h3] at hq; exact hq))
  · refine x_lload_n dJ9_max_f86c9_6 rfl rfl ?_
    refine x_goto (tgt := 11) dJ9_max_f86c9_7 (by decide) ?_
    exact x_lreturn dJ9_max_f86c9_11 rfl (by first | (rw [if_pos h3] at hq; exact hq) | (rw [if_neg h3] at hq; exact hq))
theorem c_J9_min_f86c9 {x y : Int64} (hq : Q (some (.long (if 0 < lg_cmp x y then y else x))) M) : CT G d (0, 0) MJ9_min_f86c9 [.long x, .long y] M Q := by
  refine CT.ofF (by decide +kernel) (Nat.le_of_ble_eq_true rfl) ?_
  refine x_lload_n dJ9_min_f86c9_0 rfl rfl ?_
  refine x_lload_n dJ9_min_f86c9_1 rfl rfl ?_
  refine x_lcmp dJ9_min_f86c9_2 ?_
  refine x_if_gt (tgt := 10) dJ9_min_f86c9_3 (by decide) (fun h3 => ?_) (fun h3 => ?_)
  · refine x_lload_n dJ9_min_f86c9_10 rfl rfl ?_
    exact x_lreturn dJ9_min_f86c9_11 rfl (by first | (rw [if_pos h3] at hq; exact hq) | (rw [if_neg h3] at hq; exact hq))
  · refine x_lload_n dJ9_min_f86c9_6 rfl rfl ?_
    refine x_goto (tgt := 11) dJ9_min_f86c9_7 (by decide) ?_
    exact x_lreturn dJ9_min_f86c9_11 rfl (by first | (rw [if_pos h3] at hq; exact hq) | (rw [if_neg h3] at hq; exact hq))
theorem c_J6_bitCount_0f7a4 {x : Int32} (hq : Q (some (.int (bitc x))) M) : CT G d (0, 0) MJ6_bitCount_0f7a4 [.int x] M Q := by
  refine CT.ofF (by decide +kernel) (Nat.le_of_ble_eq_true rfl) ?_
  refine x_iload_n dJ6_bitCount_0f7a4_0 rfl rfl ?_
  refine x_iload_n dJ6_bitCount_0f7a4_1 rfl rfl ?_
  refine x_iconst (v := 1) dJ6_bitCount_0f7a4_2 (by decide) ?_
  refine x_iushr dJ6_bitCount_0f7a4_3 ?_
  refine x_ldcw dJ6_bitCount_0f7a4_4 tb1061 ?_
  refine x_iand dJ6_bitCount_0f7a4_7 ?_
  refine x_isub dJ6_bitCount_0f7a4_8 ?_
  refine x_istore_n dJ6_bitCount_0f7a4_9 rfl (by decide) ?_
  refine x_loc [(0, .int (bc1 x))] ⟨rfl, trivial⟩ ?_
  refine x_iload_n dJ6_bitCount_0f7a4_10 rfl rfl ?_
  refine x_ldcw dJ6_bitCount_0f7a4_11 tb1062 ?_
  refine x_iand dJ6_bitCount_0f7a4_14 ?_
  refine x_iload_n dJ6_bitCount_0f7a4_15 rfl rfl ?_
  refine x_iconst (v := 2) dJ6_bitCount_0f7a4_16 (by decide) ?_
  refine x_iushr dJ6_bitCount_0f7a4_17 ?_
  refine x_ldcw dJ6_bitCount_0f7a4_18 tb1062 ?_
  refine x_iand dJ6_bitCount_0f7a4_21 ?_
  refine x_iadd dJ6_bitCount_0f7a4_22 ?_
  refine x_istore_n dJ6_bitCount_0f7a4_23 rfl (by decide) ?_
  refine x_loc [(0, .int (bc2 (bc1 x)))] ⟨rfl, trivial⟩ ?_
  refine x_iload_n dJ6_bitCount_0f7a4_24 rfl rfl ?_
  refine x_iload_n dJ6_bitCount_0f7a4_25 rfl rfl ?_
  refine x_iconst (v := 4) dJ6_bitCount_0f7a4_26 (by decide) ?_
  refine x_iushr dJ6_bitCount_0f7a4_27 ?_
  refine x_iadd dJ6_bitCount_0f7a4_28 ?_
  refine x_ldcw dJ6_bitCount_0f7a4_29 tb1063 ?_
  refine x_iand dJ6_bitCount_0f7a4_32 ?_
  refine x_istore_n dJ6_bitCount_0f7a4_33 rfl (by decide) ?_
  refine x_loc [(0, .int (bc3 (bc2 (bc1 x))))] ⟨rfl, trivial⟩ ?_
  refine x_iload_n dJ6_bitCount_0f7a4_34 rfl rfl ?_
  refine x_iload_n dJ6_bitCount_0f7a4_35 rfl rfl ?_
  refine x_bipush (v := 8) dJ6_bitCount_0f7a4_36 (by decide) ?_
  refine x_iushr dJ6_bitCount_0f7a4_38 ?_
  refine x_iadd dJ6_bitCount_0f7a4_39 ?_
  refine x_istore_n dJ6_bitCount_0f7a4_40 rfl (by decide) ?_
  refine x_loc [(0, .int (bc4 (bc3 (bc2 (bc1 x)))))] ⟨rfl, trivial⟩ ?_
  refine x_iload_n dJ6_bitCount_0f7a4_41 rfl rfl ?_
  refine x_iload_n dJ6_bitCount_0f7a4_42 rfl rfl ?_
  refine x_bipush (v := 16) dJ6_bitCount_0f7a4_43 (by decide) ?_
  refine x_iushr dJ6_bitCount_0f7a4_45 ?_
  refine x_iadd dJ6_bitCount_0f7a4_46 ?_
  refine x_istore_n dJ6_bitCount_0f7a4_47 rfl (by decide) ?_
  refine x_iload_n dJ6_bitCount_0f7a4_48 rfl rfl ?_
  refine x_bipush (v := 63) dJ6_bitCount_0f7a4_49 (by decide) ?_
  refine x_iand dJ6_bitCount_0f7a4_51 ?_
  exact x_ireturn dJ6_bitCount_0f7a4_52 rfl rfl (hq)
theorem c_X12_habit {reader q : Int32} (hi : adOK ad) (h0 : seti σ 0 0 = σ0) (hc : Cnt σ0) (hq : Q (some (.int (aHabit σ0 reader q))) (mm ad σ0)) : CT G (d + 2) (0, 0) MX12_habit [.ref (ad 99), .int reader, .int q] (mm ad σ) Q := by
  obtain ⟨hl1, hl2⟩ := hc.b 16 (b := 200) (by decide)
  refine CT.of rfl (Nat.le_of_ble_eq_true rfl) ?_
  refine x_aload_n dX12_habit_0 rfl rfl ?_
  refine x_iconst (v := 0) dX12_habit_1 (by decide) ?_
  refine xm_puti dX12_habit_2 lp_X12_138 vmq_0 vmn_0 vmf_0 ?_
  rw [h0]
  refine x_iload_n dX12_habit_5 rfl rfl ?_
  refine x_cS1 dX12_habit_6 ls_X12_338 rfl  (c_X12_isReader ?_)
  refine x_if_eq_b (tgt := 20) dX12_habit_9 (by decide) (fun h9 => ?_) (fun h9 => ?_)
  · refine x_ldcw dX12_habit_20 tb1627 ?_
    exact x_ireturn dX12_habit_23 rfl rfl (fan_f hq (fun z => by first | exact h9 z.1 | exact h17 z.2))
  · refine x_aload_n dX12_habit_12 rfl rfl ?_
    refine x_iload_n dX12_habit_13 rfl rfl ?_
    refine x_cV1 dX12_habit_14 lv_X12_159 mm_obj rfl rfl rfl  (c_X12_isKnown ?_)
    refine x_if_ne_b (tgt := 24) dX12_habit_17 (by decide) (fun h17 => ?_) (fun h17 => ?_)
    · have hq := fan_t hq ⟨h9, h17⟩
      refine x_iconst (v := 0) dX12_habit_24 (by decide) ?_
      refine x_istore_n dX12_habit_25 rfl (by decide) ?_
      refine x_iconst (v := 0) dX12_habit_26 (by decide) ?_
      refine x_istore dX12_habit_27 (by decide) ?_
      refine x_iconst (v := 0) dX12_habit_29 (by decide) ?_
      refine x_istore dX12_habit_30 (by decide) ?_
      refine x_loc [(0, .ref (ad 99)), (1, .int reader), (2, .int q), (3, .int (spHab σ0 reader q 0).1), (4, .int (spHab σ0 reader q 0).2), (5, .int (nI 0))] ⟨rfl, rfl, rfl, rfl, rfl, rfl, trivial⟩ ?_
      refine loop_up (P := fun i => XJ G (d + 2) (0, 0) MX12_habit (mm ad σ0) [(0, .ref (ad 99)), (1, .int reader), (2, .int q), (3, .int (spHab σ0 reader q i).1), (4, .int (spHab σ0 reader q i).2), (5, .int (nI i))] [] 32 Q) (n := cn σ0 16) ?_ ?_ 0 (Nat.zero_le _)
      · refine x_iload dX12_habit_32 rfl ?_
        refine x_aload_n dX12_habit_34 rfl rfl ?_
        refine xm_geti dX12_habit_35 lf_X12_152 vmi_16 ?_
        refine x_icmp_ge (tgt := 120) dX12_habit_38 (by decide) (fun _ => ?_) (fun z => absurd (loopT hl1) z)
        refine x_iload dX12_habit_120 rfl ?_
        refine x_if_ne (tgt := 129) dX12_habit_122 (by decide) (fun h122 => ?_) (fun h122 => ?_)
        · refine x_sipush (v := 1000) dX12_habit_129 (by decide) ?_
          refine x_iload_n dX12_habit_132 rfl rfl ?_
          refine x_imul dX12_habit_133 ?_
          refine x_iload dX12_habit_134 rfl ?_
          refine x_idiv dX12_habit_136 h122 ?_
          exact x_ireturn dX12_habit_137 rfl rfl (by first | (rw [if_pos h122] at hq; exact hq) | (rw [if_neg h122] at hq; exact hq))
        · refine x_iconst (v := 0) dX12_habit_125 (by decide) ?_
          refine x_goto (tgt := 137) dX12_habit_126 (by decide) ?_
          exact x_ireturn dX12_habit_137 rfl rfl (by first | (rw [if_pos h122] at hq; exact hq) | (rw [if_neg h122] at hq; exact hq))
      · intro i hlt ih
        refine x_iload dX12_habit_32 rfl ?_
        refine x_aload_n dX12_habit_34 rfl rfl ?_
        refine xm_geti dX12_habit_35 lf_X12_152 vmi_16 ?_
        refine x_icmp_ge (tgt := 120) dX12_habit_38 (by decide) (fun z => absurd z (loopF hl1 hlt (by omega))) (fun _ => ?_)
        refine x_aload_n dX12_habit_41 rfl rfl ?_
        refine x_iload_n dX12_habit_42 rfl rfl ?_
        refine x_iload dX12_habit_43 rfl ?_
        refine x_iload_n dX12_habit_45 rfl rfl ?_
        refine x_cV3 dX12_habit_46 lv_X12_341 mm_obj rfl rfl rfl  (c_X12_markOf hi hc ?_)
        refine x_istore dX12_habit_49 (by decide) ?_
        refine x_iconst (v := 0) dX12_habit_51 (by decide) ?_
        refine x_istore dX12_habit_52 (by decide) ?_
        refine x_loc [(0, .ref (ad 99)), (1, .int reader), (2, .int q), (3, .int (spHab1 σ0 reader q i (spHab σ0 reader q i) 0).1), (4, .int (spHab1 σ0 reader q i (spHab σ0 reader q i) 0).2), (5, .int (nI i)), (6, .int (mk σ0 q reader i)), (7, .int (nI 0))] ⟨rfl, rfl, rfl, rfl, rfl, rfl, rfl, rfl, trivial⟩ ?_
        refine loop_up (P := fun r => XJ G (d + 2) (0, 0) MX12_habit (mm ad σ0) [(0, .ref (ad 99)), (1, .int reader), (2, .int q), (3, .int (spHab1 σ0 reader q i (spHab σ0 reader q i) r).1), (4, .int (spHab1 σ0 reader q i (spHab σ0 reader q i) r).2), (5, .int (nI i)), (6, .int (mk σ0 q reader i)), (7, .int (nI r))] [] 54 Q) (n := 6) ?_ ?_ 0 (Nat.zero_le _)
        · refine x_iload dX12_habit_54 rfl ?_
          refine x_bipush (v := 6) dX12_habit_56 (by decide) ?_
          refine x_icmp_ge (tgt := 114) dX12_habit_58 (by decide) (fun _ => ?_) (fun z => absurd (loopT (show (6 : Int32) = nI 6 from rfl)) z)
          refine x_iinc (c := 1) dX12_habit_114 rfl (by decide) ?_
          refine x_goto (tgt := 32) dX12_habit_117 (by decide) ?_
          refine x_loc _ (?_ : lle _ _) ih
          exact ⟨rfl, rfl, rfl, rfl, rfl, congrArg some (congrArg Value.int (by rw [← nI_1])), trivial⟩
        · intro r hltr ihr
          have hstep : spHab1 σ0 reader q i (spHab σ0 reader q i) (r + 1) = if nI r ≠ reader ∧ mk σ0 q (nI r) i ≠ -1 ∧ mk σ0 q reader i ≠ -1 then ((spHab1 σ0 reader q i (spHab σ0 reader q i) r).1 + (mk σ0 q reader i - mk σ0 q (nI r) i), (spHab1 σ0 reader q i (spHab σ0 reader q i) r).2 + 1) else spHab1 σ0 reader q i (spHab σ0 reader q i) r := rfl
          refine x_iload dX12_habit_54 rfl ?_
          refine x_bipush (v := 6) dX12_habit_56 (by decide) ?_
          refine x_icmp_ge (tgt := 114) dX12_habit_58 (by decide) (fun z => absurd z (loopF (show (6 : Int32) = nI 6 from rfl) hltr (by omega))) (fun _ => ?_)
          refine x_iload dX12_habit_61 rfl ?_
          refine x_iconst (v := -1) dX12_habit_63 (by decide) ?_
          refine x_icmp_eq (tgt := 114) dX12_habit_64 (by decide) (fun h64 => ?_) (fun h64 => ?_)
          · have hz : ∀ n, spHab1 σ0 reader q i (spHab σ0 reader q i) n = spHab σ0 reader q i := by
              intro n
              induction n with
              | zero => rfl
              | succ n ihn =>
                have e : spHab1 σ0 reader q i (spHab σ0 reader q i) (n + 1) = if nI n ≠ reader ∧ mk σ0 q (nI n) i ≠ -1 ∧ mk σ0 q reader i ≠ -1 then ((spHab1 σ0 reader q i (spHab σ0 reader q i) n).1 + (mk σ0 q reader i - mk σ0 q (nI n) i), (spHab1 σ0 reader q i (spHab σ0 reader q i) n).2 + 1) else spHab1 σ0 reader q i (spHab σ0 reader q i) n := rfl
                rw [e, if_neg (fun z => z.2.2 h64), ihn]
            have hz2 : spHab σ0 reader q (i + 1) = spHab1 σ0 reader q i (spHab σ0 reader q i) r := by rw [hz r]; exact hz 6
            refine x_iinc (c := 1) dX12_habit_114 rfl (by decide) ?_
            refine x_goto (tgt := 32) dX12_habit_117 (by decide) ?_
            refine x_loc _ (?_ : lle _ _) ih
            rw [hz2]
            exact ⟨rfl, rfl, rfl, rfl, rfl, congrArg some (congrArg Value.int (by rw [← nI_1])), trivial⟩
          · refine x_iload dX12_habit_67 rfl ?_
            refine x_iload_n dX12_habit_69 rfl rfl ?_
            refine x_icmp_ne (tgt := 77) dX12_habit_70 (by decide) (fun h70 => ?_) (fun h70 => ?_)
            · refine x_aload_n dX12_habit_77 rfl rfl ?_
              refine x_iload dX12_habit_78 rfl ?_
              refine x_iload dX12_habit_80 rfl ?_
              refine x_iload_n dX12_habit_82 rfl rfl ?_
              refine x_cV3 dX12_habit_83 lv_X12_341 mm_obj rfl rfl rfl  (c_X12_markOf hi hc ?_)
              refine x_istore dX12_habit_86 (by decide) ?_
              refine x_iload dX12_habit_88 rfl ?_
              refine x_iconst (v := -1) dX12_habit_90 (by decide) ?_
              refine x_icmp_ne (tgt := 97) dX12_habit_91 (by decide) (fun h91 => ?_) (fun h91 => ?_)
              · refine x_iload_n dX12_habit_97 rfl rfl ?_
                refine x_iload dX12_habit_98 rfl ?_
                refine x_iload dX12_habit_100 rfl ?_
                refine x_isub dX12_habit_102 ?_
                refine x_iadd dX12_habit_103 ?_
                refine x_istore_n dX12_habit_104 rfl (by decide) ?_
                refine x_iinc (c := 1) dX12_habit_105 rfl (by decide) ?_
                refine x_iinc (c := 1) dX12_habit_108 rfl (by decide) ?_
                refine x_goto (tgt := 54) dX12_habit_111 (by decide) ?_
                refine x_loc _ (?_ : lle _ _) ihr
                refine ⟨rfl, rfl, rfl, ?_, ?_, rfl, rfl, ?_, trivial⟩
                · show some (Value.int _) = some (Value.int (spHab1 σ0 reader q i (spHab σ0 reader q i) (r + 1)).1)
                  clear ih ihr hq; grind [mk]
                · show some (Value.int _) = some (Value.int (spHab1 σ0 reader q i (spHab σ0 reader q i) (r + 1)).2)
                  clear ih ihr hq; grind [mk]
                · show some (Value.int _) = some (Value.int (nI (r + 1)))
                  rw [← nI_1]
              · refine x_goto (tgt := 108) dX12_habit_94 (by decide) ?_
                refine x_iinc (c := 1) dX12_habit_108 rfl (by decide) ?_
                refine x_goto (tgt := 54) dX12_habit_111 (by decide) ?_
                refine x_loc _ (?_ : lle _ _) ihr
                refine ⟨rfl, rfl, rfl, ?_, ?_, rfl, rfl, ?_, trivial⟩
                · show some (Value.int _) = some (Value.int (spHab1 σ0 reader q i (spHab σ0 reader q i) (r + 1)).1)
                  clear ih ihr hq; grind [mk]
                · show some (Value.int _) = some (Value.int (spHab1 σ0 reader q i (spHab σ0 reader q i) (r + 1)).2)
                  clear ih ihr hq; grind [mk]
                · show some (Value.int _) = some (Value.int (nI (r + 1)))
                  rw [← nI_1]
            · refine x_iconst (v := -1) dX12_habit_73 (by decide) ?_
              refine x_goto (tgt := 86) dX12_habit_74 (by decide) ?_
              refine x_istore dX12_habit_86 (by decide) ?_
              refine x_iload dX12_habit_88 rfl ?_
              refine x_iconst (v := -1) dX12_habit_90 (by decide) ?_
              refine x_icmp_ne (tgt := 97) dX12_habit_91 (by decide) (fun h91 => ?_) (fun h91 => ?_)
              · refine x_iload_n dX12_habit_97 rfl rfl ?_
                refine x_iload dX12_habit_98 rfl ?_
                refine x_iload dX12_habit_100 rfl ?_
                refine x_isub dX12_habit_102 ?_
                refine x_iadd dX12_habit_103 ?_
                refine x_istore_n dX12_habit_104 rfl (by decide) ?_
                refine x_iinc (c := 1) dX12_habit_105 rfl (by decide) ?_
                refine x_iinc (c := 1) dX12_habit_108 rfl (by decide) ?_
                refine x_goto (tgt := 54) dX12_habit_111 (by decide) ?_
                refine x_loc _ (?_ : lle _ _) ihr
                refine ⟨rfl, rfl, rfl, ?_, ?_, rfl, rfl, ?_, trivial⟩
                · show some (Value.int _) = some (Value.int (spHab1 σ0 reader q i (spHab σ0 reader q i) (r + 1)).1)
                  clear ih ihr hq; grind [mk]
                · show some (Value.int _) = some (Value.int (spHab1 σ0 reader q i (spHab σ0 reader q i) (r + 1)).2)
                  clear ih ihr hq; grind [mk]
                · show some (Value.int _) = some (Value.int (nI (r + 1)))
                  rw [← nI_1]
              · refine x_goto (tgt := 108) dX12_habit_94 (by decide) ?_
                refine x_iinc (c := 1) dX12_habit_108 rfl (by decide) ?_
                refine x_goto (tgt := 54) dX12_habit_111 (by decide) ?_
                refine x_loc _ (?_ : lle _ _) ihr
                refine ⟨rfl, rfl, rfl, ?_, ?_, rfl, rfl, ?_, trivial⟩
                · show some (Value.int _) = some (Value.int (spHab1 σ0 reader q i (spHab σ0 reader q i) (r + 1)).1)
                  clear ih ihr hq; grind [mk]
                · show some (Value.int _) = some (Value.int (spHab1 σ0 reader q i (spHab σ0 reader q i) (r + 1)).2)
                  clear ih ihr hq; grind [mk]
                · show some (Value.int _) = some (Value.int (nI (r + 1)))
                  rw [← nI_1]
    · refine x_ldcw dX12_habit_20 tb1627 ?_
      exact x_ireturn dX12_habit_23 rfl rfl (fan_f hq (fun z => by first | exact h9 z.1 | exact h17 z.2))
theorem sh_step {n : Nat} (h : n < 4) : nI (24 - 8 * n) + (-8) = (if n = 3 then -8 else nI (24 - 8 * (n + 1))) := by
  have : n = 0 ∨ n = 1 ∨ n = 2 ∨ n = 3 := by omega
  rcases this with rfl | rfl | rfl | rfl <;> decide
theorem c_X12_bytesIn {v : Int32} (hq : Q (some (.int (spBytes v 4))) M) : CT G d (0, 0) MX12_bytesIn [.int v] M Q := by
  refine CT.of rfl (Nat.le_of_ble_eq_true rfl) ?_
  refine x_iconst (v := 0) dX12_bytesIn_0 (by decide) ?_
  refine x_istore_n dX12_bytesIn_1 rfl (by decide) ?_
  refine x_bipush (v := 24) dX12_bytesIn_2 (by decide) ?_
  refine x_istore_n dX12_bytesIn_4 rfl (by decide) ?_
  refine x_loc [(0, .int v), (1, .int (spBytes v 0)), (2, .int (if 0 = 4 then -8 else nI (24 - 8 * 0)))] ⟨rfl, rfl, rfl, trivial⟩ ?_
  refine loop_up (P := fun i => XJ G d (0, 0) MX12_bytesIn (M) [(0, .int v), (1, .int (spBytes v i)), (2, .int (if i = 4 then -8 else nI (24 - 8 * i)))] [] 5 Q) (n := 4) ?_ ?_ 0 (Nat.zero_le _)
  · refine x_iload_n dX12_bytesIn_5 rfl rfl ?_
    refine x_if_lt (tgt := 33) dX12_bytesIn_6 (by decide) (fun _ => ?_) (fun z => absurd (by decide) z)
    refine x_iload_n dX12_bytesIn_33 rfl rfl ?_
    exact x_ireturn dX12_bytesIn_34 rfl rfl (hq)
  · intro i hlt ih
    refine x_iload_n dX12_bytesIn_5 rfl rfl ?_
    have hi4 : ¬ (if i = 4 then -8 else nI (24 - 8 * i)) < 0 := by rw [if_neg (by omega)]; exact nI_pos (by omega)
    refine x_if_lt (tgt := 33) dX12_bytesIn_6 (by decide) (fun z => absurd z hi4) (fun _ => ?_)
    refine x_iload_n dX12_bytesIn_9 rfl rfl ?_
    refine x_iload_n dX12_bytesIn_10 rfl rfl ?_
    refine x_iload_n dX12_bytesIn_11 rfl rfl ?_
    refine x_ishr dX12_bytesIn_12 ?_
    refine x_sipush (v := 255) dX12_bytesIn_13 (by decide) ?_
    refine x_iand dX12_bytesIn_16 ?_
    refine x_if_eq (tgt := 24) dX12_bytesIn_17 (by decide) (fun h17 => ?_) (fun h17 => ?_)
    · refine x_iconst (v := 0) dX12_bytesIn_24 (by decide) ?_
      refine x_iadd dX12_bytesIn_25 ?_
      refine x_istore_n dX12_bytesIn_26 rfl (by decide) ?_
      refine x_iinc (c := -8) dX12_bytesIn_27 rfl (by decide) ?_
      refine x_goto (tgt := 5) dX12_bytesIn_30 (by decide) ?_
      refine x_loc _ (?_ : lle _ _) ih
      refine ⟨rfl, ?_, ?_, trivial⟩
      · show some (Value.int _) = some (Value.int (if (v >>> ((nI (24 - 8 * i)) &&& 31)) &&& 255 = 0 then spBytes v i else spBytes v i + 1))
        clear ih hq; grind [Int32.add_zero]
      · show some (Value.int _) = some (Value.int (if i + 1 = 4 then -8 else nI (24 - 8 * (i + 1))))
        rw [if_neg (by omega), sh_step hlt]
        by_cases e : i = 3
        · rw [if_pos e, if_pos (by omega)]
        · rw [if_neg e, if_neg (by omega)]
    · refine x_iconst (v := 1) dX12_bytesIn_20 (by decide) ?_
      refine x_goto (tgt := 25) dX12_bytesIn_21 (by decide) ?_
      refine x_iadd dX12_bytesIn_25 ?_
      refine x_istore_n dX12_bytesIn_26 rfl (by decide) ?_
      refine x_iinc (c := -8) dX12_bytesIn_27 rfl (by decide) ?_
      refine x_goto (tgt := 5) dX12_bytesIn_30 (by decide) ?_
      refine x_loc _ (?_ : lle _ _) ih
      refine ⟨rfl, ?_, ?_, trivial⟩
      · show some (Value.int _) = some (Value.int (if (v >>> ((nI (24 - 8 * i)) &&& 31)) &&& 255 = 0 then spBytes v i else spBytes v i + 1))
        clear ih hq; grind [Int32.add_zero]
      · show some (Value.int _) = some (Value.int (if i + 1 = 4 then -8 else nI (24 - 8 * (i + 1))))
        rw [if_neg (by omega), sh_step hlt]
        by_cases e : i = 3
        · rw [if_pos e, if_pos (by omega)]
        · rw [if_neg e, if_neg (by omega)]
theorem c_X12_end {n : Int32} (h0 : seti σ 0 0 = σ0) (hq : Q (some (.int (aEnd σ0 n))) (mm ad (nEnd σ0 n))) : CT G d (0, 0) MX12_end [.ref (ad 99), .int n] (mm ad σ) Q := by
  refine CT.of rfl (Nat.le_of_ble_eq_true rfl) ?_
  refine x_aload_n dX12_end_0 rfl rfl ?_
  refine x_iconst (v := 0) dX12_end_1 (by decide) ?_
  refine xm_puti dX12_end_2 lp_X12_138 vmq_0 vmn_0 vmf_0 ?_
  rw [h0]
  refine x_iload_n dX12_end_5 rfl rfl ?_
  refine x_if_lt (tgt := 17) dX12_end_6 (by decide) (fun h6 => ?_) (fun h6 => ?_)
  · refine x_iconst (v := 0) dX12_end_17 (by decide) ?_
    exact x_ireturn dX12_end_18 rfl rfl (fbn_f (m := mm ad) hq (fun z => by first | exact absurd h6 (Int32.not_lt.mpr z.1) | exact h14 z.2))
  · refine x_iload_n dX12_end_9 rfl rfl ?_
    refine x_aload_n dX12_end_10 rfl rfl ?_
    refine xm_geti dX12_end_11 lf_X12_178 vmi_24 ?_
    refine x_icmp_le (tgt := 19) dX12_end_14 (by decide) (fun h14 => ?_) (fun h14 => ?_)
    · refine x_aload_n dX12_end_19 rfl rfl ?_
      refine x_iload_n dX12_end_20 rfl rfl ?_
      refine xm_puti dX12_end_21 lp_X12_178 vmq_24 vmn_24 vmf_24 ?_
      refine x_iconst (v := 1) dX12_end_24 (by decide) ?_
      exact x_ireturn dX12_end_25 rfl rfl (fbn_t (m := mm ad) hq ⟨Int32.not_lt.mp h6, h14⟩)
    · refine x_iconst (v := 0) dX12_end_17 (by decide) ?_
      exact x_ireturn dX12_end_18 rfl rfl (fbn_f (m := mm ad) hq (fun z => by first | exact absurd h6 (Int32.not_lt.mpr z.1) | exact h14 z.2))
theorem c_X12_stratum {p : Int32} {j : Nat} (hi : adOK ad) (hin : vp_in p 24) (hj : p.toNatClampNeg = j) (hq : Q (some (.int (strat (σ.2 3 j)))) (mm ad σ)) : CT G d (0, 0) MX12_stratum [.ref (ad 99), .int p] (mm ad σ) Q := by
  refine CT.of rfl (Nat.le_of_ble_eq_true rfl) ?_
  unfold strat at hq
  refine x_aload_n dX12_stratum_0 rfl rfl ?_
  refine xm_geta dX12_stratum_1 lf_X12_13 vma_3 ?_
  refine x_iload_n dX12_stratum_4 rfl rfl ?_
  refine xm_iald 3 dX12_stratum_5 mf_3 hi hin hj ?_
  refine x_bipush (v := 25) dX12_stratum_6 (by decide) ?_
  refine x_icmp_ge (tgt := 15) dX12_stratum_8 (by decide) (fun h8 => ?_) (fun h8 => ?_)
  · refine x_aload_n dX12_stratum_15 rfl rfl ?_
    refine xm_geta dX12_stratum_16 lf_X12_13 vma_3 ?_
    refine x_iload_n dX12_stratum_19 rfl rfl ?_
    refine xm_iald 3 dX12_stratum_20 mf_3 hi hin hj ?_
    refine x_bipush (v := 45) dX12_stratum_21 (by decide) ?_
    refine x_icmp_ge (tgt := 30) dX12_stratum_23 (by decide) (fun h23 => ?_) (fun h23 => ?_)
    · refine x_aload_n dX12_stratum_30 rfl rfl ?_
      refine xm_geta dX12_stratum_31 lf_X12_13 vma_3 ?_
      refine x_iload_n dX12_stratum_34 rfl rfl ?_
      refine xm_iald 3 dX12_stratum_35 mf_3 hi hin hj ?_
      refine x_bipush (v := 65) dX12_stratum_36 (by decide) ?_
      refine x_icmp_ge (tgt := 45) dX12_stratum_38 (by decide) (fun h38 => ?_) (fun h38 => ?_)
      · refine x_iconst (v := 3) dX12_stratum_45 (by decide) ?_
        exact x_ireturn dX12_stratum_46 rfl rfl (by first | (rw [if_pos (Int32.not_le.mp h8)] at hq; exact hq) | (rw [if_neg (Int32.not_lt.mpr h8), if_pos (Int32.not_le.mp h23)] at hq; exact hq) | (rw [if_neg (Int32.not_lt.mpr h8), if_neg (Int32.not_lt.mpr h23), if_pos (Int32.not_le.mp h38)] at hq; exact hq) | (rw [if_neg (Int32.not_lt.mpr h8), if_neg (Int32.not_lt.mpr h23), if_neg (Int32.not_lt.mpr h38)] at hq; exact hq))
      · refine x_iconst (v := 2) dX12_stratum_41 (by decide) ?_
        refine x_goto (tgt := 46) dX12_stratum_42 (by decide) ?_
        exact x_ireturn dX12_stratum_46 rfl rfl (by first | (rw [if_pos (Int32.not_le.mp h8)] at hq; exact hq) | (rw [if_neg (Int32.not_lt.mpr h8), if_pos (Int32.not_le.mp h23)] at hq; exact hq) | (rw [if_neg (Int32.not_lt.mpr h8), if_neg (Int32.not_lt.mpr h23), if_pos (Int32.not_le.mp h38)] at hq; exact hq) | (rw [if_neg (Int32.not_lt.mpr h8), if_neg (Int32.not_lt.mpr h23), if_neg (Int32.not_lt.mpr h38)] at hq; exact hq))
    · refine x_iconst (v := 1) dX12_stratum_26 (by decide) ?_
      refine x_goto (tgt := 46) dX12_stratum_27 (by decide) ?_
      exact x_ireturn dX12_stratum_46 rfl rfl (by first | (rw [if_pos (Int32.not_le.mp h8)] at hq; exact hq) | (rw [if_neg (Int32.not_lt.mpr h8), if_pos (Int32.not_le.mp h23)] at hq; exact hq) | (rw [if_neg (Int32.not_lt.mpr h8), if_neg (Int32.not_lt.mpr h23), if_pos (Int32.not_le.mp h38)] at hq; exact hq) | (rw [if_neg (Int32.not_lt.mpr h8), if_neg (Int32.not_lt.mpr h23), if_neg (Int32.not_lt.mpr h38)] at hq; exact hq))
  · refine x_iconst (v := 0) dX12_stratum_11 (by decide) ?_
    refine x_goto (tgt := 46) dX12_stratum_12 (by decide) ?_
    exact x_ireturn dX12_stratum_46 rfl rfl (by first | (rw [if_pos (Int32.not_le.mp h8)] at hq; exact hq) | (rw [if_neg (Int32.not_lt.mpr h8), if_pos (Int32.not_le.mp h23)] at hq; exact hq) | (rw [if_neg (Int32.not_lt.mpr h8), if_neg (Int32.not_lt.mpr h23), if_pos (Int32.not_le.mp h38)] at hq; exact hq) | (rw [if_neg (Int32.not_lt.mpr h8), if_neg (Int32.not_lt.mpr h23), if_neg (Int32.not_lt.mpr h38)] at hq; exact hq))
theorem c_X12_alikeOf {p by' : Int32} {j : Nat} (hi : adOK ad) (hc : Cnt σ) (hp : p = nI j) (hj : j < cn σ 15) (hq : Q (some (.int (spAlike σ j by' (cn σ 15)))) (mm ad σ)) : CT G (d + 1) (0, 0) MX12_alikeOf [.ref (ad 99), .int p, .int by'] (mm ad σ) Q := by
  subst hp
  obtain ⟨hp1, hp2⟩ := hc.b 15 (b := 24) (by decide)
  have hinj : vp_in (nI j) 24 := vp_in_nI (by omega) (by decide)
  have hjc : (nI j).toNatClampNeg = j := nI_clamp (by omega)
  refine CT.of rfl (Nat.le_of_ble_eq_true rfl) ?_
  refine x_iconst (v := 0) dX12_alikeOf_0 (by decide) ?_
  refine x_istore_n dX12_alikeOf_1 rfl (by decide) ?_
  refine x_iconst (v := 0) dX12_alikeOf_2 (by decide) ?_
  refine x_istore dX12_alikeOf_3 (by decide) ?_
  refine x_loc [(0, .ref (ad 99)), (1, .int (nI j)), (2, .int by'), (3, .int (spAlike σ j by' 0)), (4, .int (nI 0))] ⟨rfl, rfl, rfl, rfl, rfl, trivial⟩ ?_
  refine loop_up (P := fun i => XJ G (d + 1) (0, 0) MX12_alikeOf (mm ad σ) [(0, .ref (ad 99)), (1, .int (nI j)), (2, .int by'), (3, .int (spAlike σ j by' i)), (4, .int (nI i))] [] 5 Q) (n := cn σ 15) ?_ ?_ 0 (Nat.zero_le _)
  · refine x_iload dX12_alikeOf_5 rfl ?_
    refine x_aload_n dX12_alikeOf_7 rfl rfl ?_
    refine xm_geti dX12_alikeOf_8 lf_X12_149 vmi_15 ?_
    refine x_icmp_ge (tgt := 104) dX12_alikeOf_11 (by decide) (fun _ => ?_) (fun z => absurd (loopT hp1) z)
    refine x_iload_n dX12_alikeOf_104 rfl rfl ?_
    exact x_ireturn dX12_alikeOf_105 rfl rfl (hq)
  · intro i hlt ih
    have hin : vp_in (nI i) 24 := vp_in_nI (by omega) (by decide)
    have hcl : (nI i).toNatClampNeg = i := nI_clamp (by omega)
    refine x_iload dX12_alikeOf_5 rfl ?_
    refine x_aload_n dX12_alikeOf_7 rfl rfl ?_
    refine xm_geti dX12_alikeOf_8 lf_X12_149 vmi_15 ?_
    refine x_icmp_ge (tgt := 104) dX12_alikeOf_11 (by decide) (fun z => absurd z (loopF hp1 hlt (by omega))) (fun _ => ?_)
    refine x_iload_n dX12_alikeOf_14 rfl rfl ?_
    refine x_iconst (v := 1) dX12_alikeOf_15 (by decide) ?_
    refine x_iand dX12_alikeOf_16 ?_
    refine x_if_eq (tgt := 36) dX12_alikeOf_17 (by decide) (fun h17 => ?_) (fun h17 => ?_)
    · refine x_iload_n dX12_alikeOf_36 rfl rfl ?_
      refine x_iconst (v := 2) dX12_alikeOf_37 (by decide) ?_
      refine x_iand dX12_alikeOf_38 ?_
      refine x_if_eq (tgt := 56) dX12_alikeOf_39 (by decide) (fun h39 => ?_) (fun h39 => ?_)
      · refine x_iload_n dX12_alikeOf_56 rfl rfl ?_
        refine x_iconst (v := 4) dX12_alikeOf_57 (by decide) ?_
        refine x_iand dX12_alikeOf_58 ?_
        refine x_if_eq (tgt := 78) dX12_alikeOf_59 (by decide) (fun h59 => ?_) (fun h59 => ?_)
        · refine x_iconst (v := 1) dX12_alikeOf_78 (by decide) ?_
          refine x_goto (tgt := 83) dX12_alikeOf_79 (by decide) ?_
          refine x_istore dX12_alikeOf_83 (by decide) ?_
          refine x_iload_n dX12_alikeOf_85 rfl rfl ?_
          refine x_iload dX12_alikeOf_86 rfl ?_
          refine x_if_eq (tgt := 95) dX12_alikeOf_88 (by decide) (fun z => absurd z (by decide)) (fun _ => ?_)
          refine x_iconst (v := 1) dX12_alikeOf_91 (by decide) ?_
          refine x_goto (tgt := 96) dX12_alikeOf_92 (by decide) ?_
          refine x_iadd dX12_alikeOf_96 ?_
          refine x_istore_n dX12_alikeOf_97 rfl (by decide) ?_
          refine x_iinc (c := 1) dX12_alikeOf_98 rfl (by decide) ?_
          refine x_goto (tgt := 5) dX12_alikeOf_101 (by decide) ?_
          refine x_loc _ (?_ : lle _ _) ih
          refine ⟨rfl, rfl, rfl, ?_, ?_, trivial⟩
          · show some (Value.int _) = some (Value.int (cI (like σ j i by') (spAlike σ j by' i + 1) (spAlike σ j by' i)))
            first
            | rw [cI_t (by clear ih hq; unfold like; grind)]
            | rw [cI_f (by clear ih hq; unfold like; grind), Int32.add_zero]
          · show some (Value.int _) = some (Value.int (nI (i + 1)))
            rw [← nI_1]
        · refine x_aload_n dX12_alikeOf_62 rfl rfl ?_
          refine xm_geta dX12_alikeOf_63 lf_X12_16 vma_4 ?_
          refine x_iload dX12_alikeOf_66 rfl ?_
          refine xm_iald 4 dX12_alikeOf_68 mf_4 hi hin hcl ?_
          refine x_aload_n dX12_alikeOf_69 rfl rfl ?_
          refine xm_geta dX12_alikeOf_70 lf_X12_16 vma_4 ?_
          refine x_iload_n dX12_alikeOf_73 rfl rfl ?_
          refine xm_iald 4 dX12_alikeOf_74 mf_4 hi hinj hjc ?_
          refine x_icmp_ne (tgt := 82) dX12_alikeOf_75 (by decide) (fun h75 => ?_) (fun h75 => ?_)
          · refine x_iconst (v := 0) dX12_alikeOf_82 (by decide) ?_
            refine x_istore dX12_alikeOf_83 (by decide) ?_
            refine x_iload_n dX12_alikeOf_85 rfl rfl ?_
            refine x_iload dX12_alikeOf_86 rfl ?_
            refine x_if_eq (tgt := 95) dX12_alikeOf_88 (by decide) (fun _ => ?_) (fun z => absurd (by decide) z)
            refine x_iconst (v := 0) dX12_alikeOf_95 (by decide) ?_
            refine x_iadd dX12_alikeOf_96 ?_
            refine x_istore_n dX12_alikeOf_97 rfl (by decide) ?_
            refine x_iinc (c := 1) dX12_alikeOf_98 rfl (by decide) ?_
            refine x_goto (tgt := 5) dX12_alikeOf_101 (by decide) ?_
            refine x_loc _ (?_ : lle _ _) ih
            refine ⟨rfl, rfl, rfl, ?_, ?_, trivial⟩
            · show some (Value.int _) = some (Value.int (cI (like σ j i by') (spAlike σ j by' i + 1) (spAlike σ j by' i)))
              first
              | rw [cI_t (by clear ih hq; unfold like; grind)]
              | rw [cI_f (by clear ih hq; unfold like; grind), Int32.add_zero]
            · show some (Value.int _) = some (Value.int (nI (i + 1)))
              rw [← nI_1]
          · refine x_iconst (v := 1) dX12_alikeOf_78 (by decide) ?_
            refine x_goto (tgt := 83) dX12_alikeOf_79 (by decide) ?_
            refine x_istore dX12_alikeOf_83 (by decide) ?_
            refine x_iload_n dX12_alikeOf_85 rfl rfl ?_
            refine x_iload dX12_alikeOf_86 rfl ?_
            refine x_if_eq (tgt := 95) dX12_alikeOf_88 (by decide) (fun z => absurd z (by decide)) (fun _ => ?_)
            refine x_iconst (v := 1) dX12_alikeOf_91 (by decide) ?_
            refine x_goto (tgt := 96) dX12_alikeOf_92 (by decide) ?_
            refine x_iadd dX12_alikeOf_96 ?_
            refine x_istore_n dX12_alikeOf_97 rfl (by decide) ?_
            refine x_iinc (c := 1) dX12_alikeOf_98 rfl (by decide) ?_
            refine x_goto (tgt := 5) dX12_alikeOf_101 (by decide) ?_
            refine x_loc _ (?_ : lle _ _) ih
            refine ⟨rfl, rfl, rfl, ?_, ?_, trivial⟩
            · show some (Value.int _) = some (Value.int (cI (like σ j i by') (spAlike σ j by' i + 1) (spAlike σ j by' i)))
              first
              | rw [cI_t (by clear ih hq; unfold like; grind)]
              | rw [cI_f (by clear ih hq; unfold like; grind), Int32.add_zero]
            · show some (Value.int _) = some (Value.int (nI (i + 1)))
              rw [← nI_1]
      · refine x_aload_n dX12_alikeOf_42 rfl rfl ?_
        refine x_iload dX12_alikeOf_43 rfl ?_
        refine x_cV1 dX12_alikeOf_45 lv_X12_348 mm_obj rfl rfl rfl  (c_X12_stratum hi hin hcl ?_)
        refine x_aload_n dX12_alikeOf_48 rfl rfl ?_
        refine x_iload_n dX12_alikeOf_49 rfl rfl ?_
        refine x_cV1 dX12_alikeOf_50 lv_X12_348 mm_obj rfl rfl rfl  (c_X12_stratum hi hinj hjc ?_)
        refine x_icmp_ne (tgt := 82) dX12_alikeOf_53 (by decide) (fun h53 => ?_) (fun h53 => ?_)
        · refine x_iconst (v := 0) dX12_alikeOf_82 (by decide) ?_
          refine x_istore dX12_alikeOf_83 (by decide) ?_
          refine x_iload_n dX12_alikeOf_85 rfl rfl ?_
          refine x_iload dX12_alikeOf_86 rfl ?_
          refine x_if_eq (tgt := 95) dX12_alikeOf_88 (by decide) (fun _ => ?_) (fun z => absurd (by decide) z)
          refine x_iconst (v := 0) dX12_alikeOf_95 (by decide) ?_
          refine x_iadd dX12_alikeOf_96 ?_
          refine x_istore_n dX12_alikeOf_97 rfl (by decide) ?_
          refine x_iinc (c := 1) dX12_alikeOf_98 rfl (by decide) ?_
          refine x_goto (tgt := 5) dX12_alikeOf_101 (by decide) ?_
          refine x_loc _ (?_ : lle _ _) ih
          refine ⟨rfl, rfl, rfl, ?_, ?_, trivial⟩
          · show some (Value.int _) = some (Value.int (cI (like σ j i by') (spAlike σ j by' i + 1) (spAlike σ j by' i)))
            first
            | rw [cI_t (by clear ih hq; unfold like; grind)]
            | rw [cI_f (by clear ih hq; unfold like; grind), Int32.add_zero]
          · show some (Value.int _) = some (Value.int (nI (i + 1)))
            rw [← nI_1]
        · refine x_iload_n dX12_alikeOf_56 rfl rfl ?_
          refine x_iconst (v := 4) dX12_alikeOf_57 (by decide) ?_
          refine x_iand dX12_alikeOf_58 ?_
          refine x_if_eq (tgt := 78) dX12_alikeOf_59 (by decide) (fun h59 => ?_) (fun h59 => ?_)
          · refine x_iconst (v := 1) dX12_alikeOf_78 (by decide) ?_
            refine x_goto (tgt := 83) dX12_alikeOf_79 (by decide) ?_
            refine x_istore dX12_alikeOf_83 (by decide) ?_
            refine x_iload_n dX12_alikeOf_85 rfl rfl ?_
            refine x_iload dX12_alikeOf_86 rfl ?_
            refine x_if_eq (tgt := 95) dX12_alikeOf_88 (by decide) (fun z => absurd z (by decide)) (fun _ => ?_)
            refine x_iconst (v := 1) dX12_alikeOf_91 (by decide) ?_
            refine x_goto (tgt := 96) dX12_alikeOf_92 (by decide) ?_
            refine x_iadd dX12_alikeOf_96 ?_
            refine x_istore_n dX12_alikeOf_97 rfl (by decide) ?_
            refine x_iinc (c := 1) dX12_alikeOf_98 rfl (by decide) ?_
            refine x_goto (tgt := 5) dX12_alikeOf_101 (by decide) ?_
            refine x_loc _ (?_ : lle _ _) ih
            refine ⟨rfl, rfl, rfl, ?_, ?_, trivial⟩
            · show some (Value.int _) = some (Value.int (cI (like σ j i by') (spAlike σ j by' i + 1) (spAlike σ j by' i)))
              first
              | rw [cI_t (by clear ih hq; unfold like; grind)]
              | rw [cI_f (by clear ih hq; unfold like; grind), Int32.add_zero]
            · show some (Value.int _) = some (Value.int (nI (i + 1)))
              rw [← nI_1]
          · refine x_aload_n dX12_alikeOf_62 rfl rfl ?_
            refine xm_geta dX12_alikeOf_63 lf_X12_16 vma_4 ?_
            refine x_iload dX12_alikeOf_66 rfl ?_
            refine xm_iald 4 dX12_alikeOf_68 mf_4 hi hin hcl ?_
            refine x_aload_n dX12_alikeOf_69 rfl rfl ?_
            refine xm_geta dX12_alikeOf_70 lf_X12_16 vma_4 ?_
            refine x_iload_n dX12_alikeOf_73 rfl rfl ?_
            refine xm_iald 4 dX12_alikeOf_74 mf_4 hi hinj hjc ?_
            refine x_icmp_ne (tgt := 82) dX12_alikeOf_75 (by decide) (fun h75 => ?_) (fun h75 => ?_)
            · refine x_iconst (v := 0) dX12_alikeOf_82 (by decide) ?_
              refine x_istore dX12_alikeOf_83 (by decide) ?_
              refine x_iload_n dX12_alikeOf_85 rfl rfl ?_
              refine x_iload dX12_alikeOf_86 rfl ?_
              refine x_if_eq (tgt := 95) dX12_alikeOf_88 (by decide) (fun _ => ?_) (fun z => absurd (by decide) z)
              refine x_iconst (v := 0) dX12_alikeOf_95 (by decide) ?_
              refine x_iadd dX12_alikeOf_96 ?_
              refine x_istore_n dX12_alikeOf_97 rfl (by decide) ?_
              refine x_iinc (c := 1) dX12_alikeOf_98 rfl (by decide) ?_
              refine x_goto (tgt := 5) dX12_alikeOf_101 (by decide) ?_
              refine x_loc _ (?_ : lle _ _) ih
              refine ⟨rfl, rfl, rfl, ?_, ?_, trivial⟩
              · show some (Value.int _) = some (Value.int (cI (like σ j i by') (spAlike σ j by' i + 1) (spAlike σ j by' i)))
                first
                | rw [cI_t (by clear ih hq; unfold like; grind)]
                | rw [cI_f (by clear ih hq; unfold like; grind), Int32.add_zero]
              · show some (Value.int _) = some (Value.int (nI (i + 1)))
                rw [← nI_1]
            · refine x_iconst (v := 1) dX12_alikeOf_78 (by decide) ?_
              refine x_goto (tgt := 83) dX12_alikeOf_79 (by decide) ?_
              refine x_istore dX12_alikeOf_83 (by decide) ?_
              refine x_iload_n dX12_alikeOf_85 rfl rfl ?_
              refine x_iload dX12_alikeOf_86 rfl ?_
              refine x_if_eq (tgt := 95) dX12_alikeOf_88 (by decide) (fun z => absurd z (by decide)) (fun _ => ?_)
              refine x_iconst (v := 1) dX12_alikeOf_91 (by decide) ?_
              refine x_goto (tgt := 96) dX12_alikeOf_92 (by decide) ?_
              refine x_iadd dX12_alikeOf_96 ?_
              refine x_istore_n dX12_alikeOf_97 rfl (by decide) ?_
              refine x_iinc (c := 1) dX12_alikeOf_98 rfl (by decide) ?_
              refine x_goto (tgt := 5) dX12_alikeOf_101 (by decide) ?_
              refine x_loc _ (?_ : lle _ _) ih
              refine ⟨rfl, rfl, rfl, ?_, ?_, trivial⟩
              · show some (Value.int _) = some (Value.int (cI (like σ j i by') (spAlike σ j by' i + 1) (spAlike σ j by' i)))
                first
                | rw [cI_t (by clear ih hq; unfold like; grind)]
                | rw [cI_f (by clear ih hq; unfold like; grind), Int32.add_zero]
              · show some (Value.int _) = some (Value.int (nI (i + 1)))
                rw [← nI_1]
    · refine x_aload_n dX12_alikeOf_20 rfl rfl ?_
      refine xm_geta dX12_alikeOf_21 lf_X12_9 vma_2 ?_
      refine x_iload dX12_alikeOf_24 rfl ?_
      refine xm_iald 2 dX12_alikeOf_26 mf_2 hi hin hcl ?_
      refine x_aload_n dX12_alikeOf_27 rfl rfl ?_
      refine xm_geta dX12_alikeOf_28 lf_X12_9 vma_2 ?_
      refine x_iload_n dX12_alikeOf_31 rfl rfl ?_
      refine xm_iald 2 dX12_alikeOf_32 mf_2 hi hinj hjc ?_
      refine x_icmp_ne (tgt := 82) dX12_alikeOf_33 (by decide) (fun h33 => ?_) (fun h33 => ?_)
      · refine x_iconst (v := 0) dX12_alikeOf_82 (by decide) ?_
        refine x_istore dX12_alikeOf_83 (by decide) ?_
        refine x_iload_n dX12_alikeOf_85 rfl rfl ?_
        refine x_iload dX12_alikeOf_86 rfl ?_
        refine x_if_eq (tgt := 95) dX12_alikeOf_88 (by decide) (fun _ => ?_) (fun z => absurd (by decide) z)
        refine x_iconst (v := 0) dX12_alikeOf_95 (by decide) ?_
        refine x_iadd dX12_alikeOf_96 ?_
        refine x_istore_n dX12_alikeOf_97 rfl (by decide) ?_
        refine x_iinc (c := 1) dX12_alikeOf_98 rfl (by decide) ?_
        refine x_goto (tgt := 5) dX12_alikeOf_101 (by decide) ?_
        refine x_loc _ (?_ : lle _ _) ih
        refine ⟨rfl, rfl, rfl, ?_, ?_, trivial⟩
        · show some (Value.int _) = some (Value.int (cI (like σ j i by') (spAlike σ j by' i + 1) (spAlike σ j by' i)))
          first
          | rw [cI_t (by clear ih hq; unfold like; grind)]
          | rw [cI_f (by clear ih hq; unfold like; grind), Int32.add_zero]
        · show some (Value.int _) = some (Value.int (nI (i + 1)))
          rw [← nI_1]
      · refine x_iload_n dX12_alikeOf_36 rfl rfl ?_
        refine x_iconst (v := 2) dX12_alikeOf_37 (by decide) ?_
        refine x_iand dX12_alikeOf_38 ?_
        refine x_if_eq (tgt := 56) dX12_alikeOf_39 (by decide) (fun h39 => ?_) (fun h39 => ?_)
        · refine x_iload_n dX12_alikeOf_56 rfl rfl ?_
          refine x_iconst (v := 4) dX12_alikeOf_57 (by decide) ?_
          refine x_iand dX12_alikeOf_58 ?_
          refine x_if_eq (tgt := 78) dX12_alikeOf_59 (by decide) (fun h59 => ?_) (fun h59 => ?_)
          · refine x_iconst (v := 1) dX12_alikeOf_78 (by decide) ?_
            refine x_goto (tgt := 83) dX12_alikeOf_79 (by decide) ?_
            refine x_istore dX12_alikeOf_83 (by decide) ?_
            refine x_iload_n dX12_alikeOf_85 rfl rfl ?_
            refine x_iload dX12_alikeOf_86 rfl ?_
            refine x_if_eq (tgt := 95) dX12_alikeOf_88 (by decide) (fun z => absurd z (by decide)) (fun _ => ?_)
            refine x_iconst (v := 1) dX12_alikeOf_91 (by decide) ?_
            refine x_goto (tgt := 96) dX12_alikeOf_92 (by decide) ?_
            refine x_iadd dX12_alikeOf_96 ?_
            refine x_istore_n dX12_alikeOf_97 rfl (by decide) ?_
            refine x_iinc (c := 1) dX12_alikeOf_98 rfl (by decide) ?_
            refine x_goto (tgt := 5) dX12_alikeOf_101 (by decide) ?_
            refine x_loc _ (?_ : lle _ _) ih
            refine ⟨rfl, rfl, rfl, ?_, ?_, trivial⟩
            · show some (Value.int _) = some (Value.int (cI (like σ j i by') (spAlike σ j by' i + 1) (spAlike σ j by' i)))
              first
              | rw [cI_t (by clear ih hq; unfold like; grind)]
              | rw [cI_f (by clear ih hq; unfold like; grind), Int32.add_zero]
            · show some (Value.int _) = some (Value.int (nI (i + 1)))
              rw [← nI_1]
          · refine x_aload_n dX12_alikeOf_62 rfl rfl ?_
            refine xm_geta dX12_alikeOf_63 lf_X12_16 vma_4 ?_
            refine x_iload dX12_alikeOf_66 rfl ?_
            refine xm_iald 4 dX12_alikeOf_68 mf_4 hi hin hcl ?_
            refine x_aload_n dX12_alikeOf_69 rfl rfl ?_
            refine xm_geta dX12_alikeOf_70 lf_X12_16 vma_4 ?_
            refine x_iload_n dX12_alikeOf_73 rfl rfl ?_
            refine xm_iald 4 dX12_alikeOf_74 mf_4 hi hinj hjc ?_
            refine x_icmp_ne (tgt := 82) dX12_alikeOf_75 (by decide) (fun h75 => ?_) (fun h75 => ?_)
            · refine x_iconst (v := 0) dX12_alikeOf_82 (by decide) ?_
              refine x_istore dX12_alikeOf_83 (by decide) ?_
              refine x_iload_n dX12_alikeOf_85 rfl rfl ?_
              refine x_iload dX12_alikeOf_86 rfl ?_
              refine x_if_eq (tgt := 95) dX12_alikeOf_88 (by decide) (fun _ => ?_) (fun z => absurd (by decide) z)
              refine x_iconst (v := 0) dX12_alikeOf_95 (by decide) ?_
              refine x_iadd dX12_alikeOf_96 ?_
              refine x_istore_n dX12_alikeOf_97 rfl (by decide) ?_
              refine x_iinc (c := 1) dX12_alikeOf_98 rfl (by decide) ?_
              refine x_goto (tgt := 5) dX12_alikeOf_101 (by decide) ?_
              refine x_loc _ (?_ : lle _ _) ih
              refine ⟨rfl, rfl, rfl, ?_, ?_, trivial⟩
              · show some (Value.int _) = some (Value.int (cI (like σ j i by') (spAlike σ j by' i + 1) (spAlike σ j by' i)))
                first
                | rw [cI_t (by clear ih hq; unfold like; grind)]
                | rw [cI_f (by clear ih hq; unfold like; grind), Int32.add_zero]
              · show some (Value.int _) = some (Value.int (nI (i + 1)))
                rw [← nI_1]
            · refine x_iconst (v := 1) dX12_alikeOf_78 (by decide) ?_
              refine x_goto (tgt := 83) dX12_alikeOf_79 (by decide) ?_
              refine x_istore dX12_alikeOf_83 (by decide) ?_
              refine x_iload_n dX12_alikeOf_85 rfl rfl ?_
              refine x_iload dX12_alikeOf_86 rfl ?_
              refine x_if_eq (tgt := 95) dX12_alikeOf_88 (by decide) (fun z => absurd z (by decide)) (fun _ => ?_)
              refine x_iconst (v := 1) dX12_alikeOf_91 (by decide) ?_
              refine x_goto (tgt := 96) dX12_alikeOf_92 (by decide) ?_
              refine x_iadd dX12_alikeOf_96 ?_
              refine x_istore_n dX12_alikeOf_97 rfl (by decide) ?_
              refine x_iinc (c := 1) dX12_alikeOf_98 rfl (by decide) ?_
              refine x_goto (tgt := 5) dX12_alikeOf_101 (by decide) ?_
              refine x_loc _ (?_ : lle _ _) ih
              refine ⟨rfl, rfl, rfl, ?_, ?_, trivial⟩
              · show some (Value.int _) = some (Value.int (cI (like σ j i by') (spAlike σ j by' i + 1) (spAlike σ j by' i)))
                first
                | rw [cI_t (by clear ih hq; unfold like; grind)]
                | rw [cI_f (by clear ih hq; unfold like; grind), Int32.add_zero]
              · show some (Value.int _) = some (Value.int (nI (i + 1)))
                rw [← nI_1]
        · refine x_aload_n dX12_alikeOf_42 rfl rfl ?_
          refine x_iload dX12_alikeOf_43 rfl ?_
          refine x_cV1 dX12_alikeOf_45 lv_X12_348 mm_obj rfl rfl rfl  (c_X12_stratum hi hin hcl ?_)
          refine x_aload_n dX12_alikeOf_48 rfl rfl ?_
          refine x_iload_n dX12_alikeOf_49 rfl rfl ?_
          refine x_cV1 dX12_alikeOf_50 lv_X12_348 mm_obj rfl rfl rfl  (c_X12_stratum hi hinj hjc ?_)
          refine x_icmp_ne (tgt := 82) dX12_alikeOf_53 (by decide) (fun h53 => ?_) (fun h53 => ?_)
          · refine x_iconst (v := 0) dX12_alikeOf_82 (by decide) ?_
            refine x_istore dX12_alikeOf_83 (by decide) ?_
            refine x_iload_n dX12_alikeOf_85 rfl rfl ?_
            refine x_iload dX12_alikeOf_86 rfl ?_
            refine x_if_eq (tgt := 95) dX12_alikeOf_88 (by decide) (fun _ => ?_) (fun z => absurd (by decide) z)
            refine x_iconst (v := 0) dX12_alikeOf_95 (by decide) ?_
            refine x_iadd dX12_alikeOf_96 ?_
            refine x_istore_n dX12_alikeOf_97 rfl (by decide) ?_
            refine x_iinc (c := 1) dX12_alikeOf_98 rfl (by decide) ?_
            refine x_goto (tgt := 5) dX12_alikeOf_101 (by decide) ?_
            refine x_loc _ (?_ : lle _ _) ih
            refine ⟨rfl, rfl, rfl, ?_, ?_, trivial⟩
            · show some (Value.int _) = some (Value.int (cI (like σ j i by') (spAlike σ j by' i + 1) (spAlike σ j by' i)))
              first
              | rw [cI_t (by clear ih hq; unfold like; grind)]
              | rw [cI_f (by clear ih hq; unfold like; grind), Int32.add_zero]
            · show some (Value.int _) = some (Value.int (nI (i + 1)))
              rw [← nI_1]
          · refine x_iload_n dX12_alikeOf_56 rfl rfl ?_
            refine x_iconst (v := 4) dX12_alikeOf_57 (by decide) ?_
            refine x_iand dX12_alikeOf_58 ?_
            refine x_if_eq (tgt := 78) dX12_alikeOf_59 (by decide) (fun h59 => ?_) (fun h59 => ?_)
            · refine x_iconst (v := 1) dX12_alikeOf_78 (by decide) ?_
              refine x_goto (tgt := 83) dX12_alikeOf_79 (by decide) ?_
              refine x_istore dX12_alikeOf_83 (by decide) ?_
              refine x_iload_n dX12_alikeOf_85 rfl rfl ?_
              refine x_iload dX12_alikeOf_86 rfl ?_
              refine x_if_eq (tgt := 95) dX12_alikeOf_88 (by decide) (fun z => absurd z (by decide)) (fun _ => ?_)
              refine x_iconst (v := 1) dX12_alikeOf_91 (by decide) ?_
              refine x_goto (tgt := 96) dX12_alikeOf_92 (by decide) ?_
              refine x_iadd dX12_alikeOf_96 ?_
              refine x_istore_n dX12_alikeOf_97 rfl (by decide) ?_
              refine x_iinc (c := 1) dX12_alikeOf_98 rfl (by decide) ?_
              refine x_goto (tgt := 5) dX12_alikeOf_101 (by decide) ?_
              refine x_loc _ (?_ : lle _ _) ih
              refine ⟨rfl, rfl, rfl, ?_, ?_, trivial⟩
              · show some (Value.int _) = some (Value.int (cI (like σ j i by') (spAlike σ j by' i + 1) (spAlike σ j by' i)))
                first
                | rw [cI_t (by clear ih hq; unfold like; grind)]
                | rw [cI_f (by clear ih hq; unfold like; grind), Int32.add_zero]
              · show some (Value.int _) = some (Value.int (nI (i + 1)))
                rw [← nI_1]
            · refine x_aload_n dX12_alikeOf_62 rfl rfl ?_
              refine xm_geta dX12_alikeOf_63 lf_X12_16 vma_4 ?_
              refine x_iload dX12_alikeOf_66 rfl ?_
              refine xm_iald 4 dX12_alikeOf_68 mf_4 hi hin hcl ?_
              refine x_aload_n dX12_alikeOf_69 rfl rfl ?_
              refine xm_geta dX12_alikeOf_70 lf_X12_16 vma_4 ?_
              refine x_iload_n dX12_alikeOf_73 rfl rfl ?_
              refine xm_iald 4 dX12_alikeOf_74 mf_4 hi hinj hjc ?_
              refine x_icmp_ne (tgt := 82) dX12_alikeOf_75 (by decide) (fun h75 => ?_) (fun h75 => ?_)
              · refine x_iconst (v := 0) dX12_alikeOf_82 (by decide) ?_
                refine x_istore dX12_alikeOf_83 (by decide) ?_
                refine x_iload_n dX12_alikeOf_85 rfl rfl ?_
                refine x_iload dX12_alikeOf_86 rfl ?_
                refine x_if_eq (tgt := 95) dX12_alikeOf_88 (by decide) (fun _ => ?_) (fun z => absurd (by decide) z)
                refine x_iconst (v := 0) dX12_alikeOf_95 (by decide) ?_
                refine x_iadd dX12_alikeOf_96 ?_
                refine x_istore_n dX12_alikeOf_97 rfl (by decide) ?_
                refine x_iinc (c := 1) dX12_alikeOf_98 rfl (by decide) ?_
                refine x_goto (tgt := 5) dX12_alikeOf_101 (by decide) ?_
                refine x_loc _ (?_ : lle _ _) ih
                refine ⟨rfl, rfl, rfl, ?_, ?_, trivial⟩
                · show some (Value.int _) = some (Value.int (cI (like σ j i by') (spAlike σ j by' i + 1) (spAlike σ j by' i)))
                  first
                  | rw [cI_t (by clear ih hq; unfold like; grind)]
                  | rw [cI_f (by clear ih hq; unfold like; grind), Int32.add_zero]
                · show some (Value.int _) = some (Value.int (nI (i + 1)))
                  rw [← nI_1]
              · refine x_iconst (v := 1) dX12_alikeOf_78 (by decide) ?_
                refine x_goto (tgt := 83) dX12_alikeOf_79 (by decide) ?_
                refine x_istore dX12_alikeOf_83 (by decide) ?_
                refine x_iload_n dX12_alikeOf_85 rfl rfl ?_
                refine x_iload dX12_alikeOf_86 rfl ?_
                refine x_if_eq (tgt := 95) dX12_alikeOf_88 (by decide) (fun z => absurd z (by decide)) (fun _ => ?_)
                refine x_iconst (v := 1) dX12_alikeOf_91 (by decide) ?_
                refine x_goto (tgt := 96) dX12_alikeOf_92 (by decide) ?_
                refine x_iadd dX12_alikeOf_96 ?_
                refine x_istore_n dX12_alikeOf_97 rfl (by decide) ?_
                refine x_iinc (c := 1) dX12_alikeOf_98 rfl (by decide) ?_
                refine x_goto (tgt := 5) dX12_alikeOf_101 (by decide) ?_
                refine x_loc _ (?_ : lle _ _) ih
                refine ⟨rfl, rfl, rfl, ?_, ?_, trivial⟩
                · show some (Value.int _) = some (Value.int (cI (like σ j i by') (spAlike σ j by' i + 1) (spAlike σ j by' i)))
                  first
                  | rw [cI_t (by clear ih hq; unfold like; grind)]
                  | rw [cI_f (by clear ih hq; unfold like; grind), Int32.add_zero]
                · show some (Value.int _) = some (Value.int (nI (i + 1)))
                  rw [← nI_1]
theorem c_X12_alike {p by' : Int32} (hi : adOK ad) (h0 : seti σ 0 0 = σ0) (hc : Cnt σ0) (hq : Q (some (.int (aAlike σ0 p by'))) (mm ad σ0)) : CT G (d + 2) (0, 0) MX12_alike [.ref (ad 99), .int p, .int by'] (mm ad σ) Q := by
  obtain ⟨hp1, hp2⟩ := hc.b 15 (b := 24) (by decide)
  refine CT.of rfl (Nat.le_of_ble_eq_true rfl) ?_
  refine x_aload_n dX12_alike_0 rfl rfl ?_
  refine x_iconst (v := 0) dX12_alike_1 (by decide) ?_
  refine xm_puti dX12_alike_2 lp_X12_138 vmq_0 vmn_0 vmf_0 ?_
  rw [h0]
  refine x_aload_n dX12_alike_5 rfl rfl ?_
  refine x_iload_n dX12_alike_6 rfl rfl ?_
  refine x_cV1 dX12_alike_7 lv_X12_165 mm_obj rfl rfl rfl  (c_X12_isPerson ?_)
  refine x_if_eq_b (tgt := 32) dX12_alike_10 (by decide) (fun h10 => ?_) (fun h10 => ?_)
  · refine x_iconst (v := -1) dX12_alike_32 (by decide) ?_
    exact x_ireturn dX12_alike_33 rfl rfl (by first | exact hq | exact fan_f hq (fun z => by first | exact h10 z.1 | exact h20 z.2))
  · refine x_iload_n dX12_alike_13 rfl rfl ?_
    refine x_iconst (v := 0) dX12_alike_14 (by decide) ?_
    refine x_bipush (v := 7) dX12_alike_15 (by decide) ?_
    refine x_cS3 dX12_alike_17 ls_X12_145 rfl  (c_X12_isIn ?_)
    refine x_if_eq_b (tgt := 32) dX12_alike_20 (by decide) (fun h20 => ?_) (fun h20 => ?_)
    · refine x_iconst (v := -1) dX12_alike_32 (by decide) ?_
      exact x_ireturn dX12_alike_33 rfl rfl (by first | exact hq | exact fan_f hq (fun z => by first | exact h10 z.1 | exact h20 z.2))
    · have hq := fan_t hq ⟨h10, h20⟩
      obtain ⟨j, hj, rfl⟩ := of_lt h10.1 h10.2 hp1 (by omega)
      rw [nI_clamp (by omega)] at hq
      refine x_aload_n dX12_alike_23 rfl rfl ?_
      refine x_iload_n dX12_alike_24 rfl rfl ?_
      refine x_iload_n dX12_alike_25 rfl rfl ?_
      refine x_cV2 dX12_alike_26 lv_X12_385 mm_obj rfl rfl rfl  (c_X12_alikeOf hi hc rfl hj ?_)
      refine x_goto (tgt := 33) dX12_alike_29 (by decide) ?_
      exact x_ireturn dX12_alike_33 rfl rfl (by first | exact hq | exact fan_f hq (fun z => by first | exact h10 z.1 | exact h20 z.2))
theorem c_X12_priceOf {set : Int32} (hi : adOK ad) (hc : Cnt σ) (hq : Q (some (.int (spPrice σ set (cn σ 65)))) (mm ad σ)) : CT G d (0, 0) MX12_priceOf [.ref (ad 99), .int set] (mm ad σ) Q := by
  obtain ⟨hp1, hp2⟩ := hc.b 65 (b := 8) (by decide)
  refine CT.of rfl (Nat.le_of_ble_eq_true rfl) ?_
  refine x_iconst (v := 0) dX12_priceOf_0 (by decide) ?_
  refine x_istore_n dX12_priceOf_1 rfl (by decide) ?_
  refine x_iconst (v := 0) dX12_priceOf_2 (by decide) ?_
  refine x_istore_n dX12_priceOf_3 rfl (by decide) ?_
  refine x_loc [(0, .ref (ad 99)), (1, .int set), (2, .int (spPrice σ set 0)), (3, .int (nI 0))] ⟨rfl, rfl, rfl, rfl, trivial⟩ ?_
  refine loop_up (P := fun i => XJ G d (0, 0) MX12_priceOf (mm ad σ) [(0, .ref (ad 99)), (1, .int set), (2, .int (spPrice σ set i)), (3, .int (nI i))] [] 4 Q) (n := cn σ 65) ?_ ?_ 0 (Nat.zero_le _)
  · refine x_iload_n dX12_priceOf_4 rfl rfl ?_
    refine x_aload_n dX12_priceOf_5 rfl rfl ?_
    refine xm_geti dX12_priceOf_6 lf_X12_393 vmi_65 ?_
    refine x_icmp_ge (tgt := 40) dX12_priceOf_9 (by decide) (fun _ => ?_) (fun z => absurd (loopT hp1) z)
    refine x_iload_n dX12_priceOf_40 rfl rfl ?_
    exact x_ireturn dX12_priceOf_41 rfl rfl (hq)
  · intro i hlt ih
    have hin : vp_in (nI i) 8 := vp_in_nI (by omega) (by decide)
    have hcl : (nI i).toNatClampNeg = i := nI_clamp (by omega)
    refine x_iload_n dX12_priceOf_4 rfl rfl ?_
    refine x_aload_n dX12_priceOf_5 rfl rfl ?_
    refine xm_geti dX12_priceOf_6 lf_X12_393 vmi_65 ?_
    refine x_icmp_ge (tgt := 40) dX12_priceOf_9 (by decide) (fun z => absurd z (loopF hp1 hlt (by omega))) (fun _ => ?_)
    refine x_iload_n dX12_priceOf_12 rfl rfl ?_
    refine x_iload_n dX12_priceOf_13 rfl rfl ?_
    refine x_iload_n dX12_priceOf_14 rfl rfl ?_
    refine x_ishr dX12_priceOf_15 ?_
    refine x_iconst (v := 1) dX12_priceOf_16 (by decide) ?_
    refine x_iand dX12_priceOf_17 ?_
    refine x_iconst (v := 1) dX12_priceOf_18 (by decide) ?_
    refine x_icmp_ne (tgt := 31) dX12_priceOf_19 (by decide) (fun h19 => ?_) (fun h19 => ?_)
    · refine x_iconst (v := 0) dX12_priceOf_31 (by decide) ?_
      refine x_iadd dX12_priceOf_32 ?_
      refine x_istore_n dX12_priceOf_33 rfl (by decide) ?_
      refine x_iinc (c := 1) dX12_priceOf_34 rfl (by decide) ?_
      refine x_goto (tgt := 4) dX12_priceOf_37 (by decide) ?_
      refine x_loc _ (?_ : lle _ _) ih
      refine ⟨rfl, rfl, ?_, ?_, trivial⟩
      · show some (Value.int _) = some (Value.int (if (set >>> (nI i &&& 31)) &&& 1 = 1 then spPrice σ set i + σ.2 62 i else spPrice σ set i))
        clear ih hq; grind [Int32.add_zero]
      · show some (Value.int _) = some (Value.int (nI (i + 1)))
        rw [← nI_1]
    · refine x_aload_n dX12_priceOf_22 rfl rfl ?_
      refine xm_geta dX12_priceOf_23 lf_X12_129 vma_62 ?_
      refine x_iload_n dX12_priceOf_26 rfl rfl ?_
      refine xm_iald 62 dX12_priceOf_27 mf_62 hi hin hcl ?_
      refine x_goto (tgt := 32) dX12_priceOf_28 (by decide) ?_
      refine x_iadd dX12_priceOf_32 ?_
      refine x_istore_n dX12_priceOf_33 rfl (by decide) ?_
      refine x_iinc (c := 1) dX12_priceOf_34 rfl (by decide) ?_
      refine x_goto (tgt := 4) dX12_priceOf_37 (by decide) ?_
      refine x_loc _ (?_ : lle _ _) ih
      refine ⟨rfl, rfl, ?_, ?_, trivial⟩
      · show some (Value.int _) = some (Value.int (if (set >>> (nI i &&& 31)) &&& 1 = 1 then spPrice σ set i + σ.2 62 i else spPrice σ set i))
        clear ih hq; grind [Int32.add_zero]
      · show some (Value.int _) = some (Value.int (nI (i + 1)))
        rw [← nI_1]
theorem c_X12_sortsOf {set : Int32} (hi : adOK ad) (hc : Cnt σ) (hq : Q (some (.int (spSorts σ set))) (mm ad σ)) : CT G (d + 1) (0, 0) MX12_sortsOf [.ref (ad 99), .int set] (mm ad σ) Q := by
  obtain ⟨hp1, hp2⟩ := hc.b 65 (b := 8) (by decide)
  refine CT.of rfl (Nat.le_of_ble_eq_true rfl) ?_
  refine x_iconst (v := 0) dX12_sortsOf_0 (by decide) ?_
  refine x_istore_n dX12_sortsOf_1 rfl (by decide) ?_
  refine x_iconst (v := 0) dX12_sortsOf_2 (by decide) ?_
  refine x_istore_n dX12_sortsOf_3 rfl (by decide) ?_
  refine x_loc [(0, .ref (ad 99)), (1, .int set), (2, .int (spSortB σ set 0)), (3, .int (nI 0))] ⟨rfl, rfl, rfl, rfl, trivial⟩ ?_
  refine loop_up (P := fun i => XJ G (d + 1) (0, 0) MX12_sortsOf (mm ad σ) [(0, .ref (ad 99)), (1, .int set), (2, .int (spSortB σ set i)), (3, .int (nI i))] [] 4 Q) (n := cn σ 65) ?_ ?_ 0 (Nat.zero_le _)
  · refine x_iload_n dX12_sortsOf_4 rfl rfl ?_
    refine x_aload_n dX12_sortsOf_5 rfl rfl ?_
    refine xm_geti dX12_sortsOf_6 lf_X12_393 vmi_65 ?_
    refine x_icmp_ge (tgt := 40) dX12_sortsOf_9 (by decide) (fun _ => ?_) (fun z => absurd (loopT hp1) z)
    refine x_iload_n dX12_sortsOf_40 rfl rfl ?_
    refine x_cS1 dX12_sortsOf_41 ls_X12_388 rfl  (c_J6_bitCount_0f7a4 ?_)
    exact x_ireturn dX12_sortsOf_44 rfl rfl (hq)
  · intro i hlt ih
    have hin : vp_in (nI i) 8 := vp_in_nI (by omega) (by decide)
    have hcl : (nI i).toNatClampNeg = i := nI_clamp (by omega)
    refine x_iload_n dX12_sortsOf_4 rfl rfl ?_
    refine x_aload_n dX12_sortsOf_5 rfl rfl ?_
    refine xm_geti dX12_sortsOf_6 lf_X12_393 vmi_65 ?_
    refine x_icmp_ge (tgt := 40) dX12_sortsOf_9 (by decide) (fun z => absurd z (loopF hp1 hlt (by omega))) (fun _ => ?_)
    refine x_iload_n dX12_sortsOf_12 rfl rfl ?_
    refine x_iload_n dX12_sortsOf_13 rfl rfl ?_
    refine x_iload_n dX12_sortsOf_14 rfl rfl ?_
    refine x_ishr dX12_sortsOf_15 ?_
    refine x_iconst (v := 1) dX12_sortsOf_16 (by decide) ?_
    refine x_iand dX12_sortsOf_17 ?_
    refine x_iconst (v := 1) dX12_sortsOf_18 (by decide) ?_
    refine x_icmp_ne (tgt := 31) dX12_sortsOf_19 (by decide) (fun h19 => ?_) (fun h19 => ?_)
    · refine x_iconst (v := 0) dX12_sortsOf_31 (by decide) ?_
      refine x_ior dX12_sortsOf_32 ?_
      refine x_istore_n dX12_sortsOf_33 rfl (by decide) ?_
      refine x_iinc (c := 1) dX12_sortsOf_34 rfl (by decide) ?_
      refine x_goto (tgt := 4) dX12_sortsOf_37 (by decide) ?_
      refine x_loc _ (?_ : lle _ _) ih
      refine ⟨rfl, rfl, ?_, ?_, trivial⟩
      · show some (Value.int _) = some (Value.int (if (set >>> (nI i &&& 31)) &&& 1 = 1 then spSortB σ set i ||| σ.2 63 i else spSortB σ set i))
        clear ih hq; grind [Int32.or_zero]
      · show some (Value.int _) = some (Value.int (nI (i + 1)))
        rw [← nI_1]
    · refine x_aload_n dX12_sortsOf_22 rfl rfl ?_
      refine xm_geta dX12_sortsOf_23 lf_X12_132 vma_63 ?_
      refine x_iload_n dX12_sortsOf_26 rfl rfl ?_
      refine xm_iald 63 dX12_sortsOf_27 mf_63 hi hin hcl ?_
      refine x_goto (tgt := 32) dX12_sortsOf_28 (by decide) ?_
      refine x_ior dX12_sortsOf_32 ?_
      refine x_istore_n dX12_sortsOf_33 rfl (by decide) ?_
      refine x_iinc (c := 1) dX12_sortsOf_34 rfl (by decide) ?_
      refine x_goto (tgt := 4) dX12_sortsOf_37 (by decide) ?_
      refine x_loc _ (?_ : lle _ _) ih
      refine ⟨rfl, rfl, ?_, ?_, trivial⟩
      · show some (Value.int _) = some (Value.int (if (set >>> (nI i &&& 31)) &&& 1 = 1 then spSortB σ set i ||| σ.2 63 i else spSortB σ set i))
        clear ih hq; grind [Int32.or_zero]
      · show some (Value.int _) = some (Value.int (nI (i + 1)))
        rw [← nI_1]
theorem c_X12_judge {set coin : Int32} (hi : adOK ad) (h0 : seti σ 0 0 = σ0) (hc : Cnt σ0) (hq : Q (some (.int (aJudge σ0 set coin))) (mm ad σ0)) : CT G (d + 2) (0, 0) MX12_judge [.ref (ad 99), .int set, .int coin] (mm ad σ) Q := by
  refine CT.of rfl (Nat.le_of_ble_eq_true rfl) ?_
  refine x_aload_n dX12_judge_0 rfl rfl ?_
  refine x_iconst (v := 0) dX12_judge_1 (by decide) ?_
  refine xm_puti dX12_judge_2 lp_X12_138 vmq_0 vmn_0 vmf_0 ?_
  rw [h0]
  refine x_iload_n dX12_judge_5 rfl rfl ?_
  refine x_if_lt (tgt := 30) dX12_judge_6 (by decide) (fun h6 => ?_) (fun h6 => ?_)
  · refine x_bipush (v := -2) dX12_judge_30 (by decide) ?_
    exact x_ireturn dX12_judge_32 rfl rfl (fan_f hq (fun z => by first | exact absurd h6 (Int32.not_lt.mpr z.1) | exact absurd z.2.1 (Int32.not_lt.mpr h16) | exact h27 z.2.2))
  · refine x_iload_n dX12_judge_9 rfl rfl ?_
    refine x_iconst (v := 1) dX12_judge_10 (by decide) ?_
    refine x_aload_n dX12_judge_11 rfl rfl ?_
    refine xm_geti dX12_judge_12 lf_X12_393 vmi_65 ?_
    refine x_ishl dX12_judge_15 ?_
    refine x_icmp_ge (tgt := 30) dX12_judge_16 (by decide) (fun h16 => ?_) (fun h16 => ?_)
    · refine x_bipush (v := -2) dX12_judge_30 (by decide) ?_
      exact x_ireturn dX12_judge_32 rfl rfl (fan_f hq (fun z => by first | exact absurd h6 (Int32.not_lt.mpr z.1) | exact absurd z.2.1 (Int32.not_lt.mpr h16) | exact h27 z.2.2))
    · refine x_iload_n dX12_judge_19 rfl rfl ?_
      refine x_iconst (v := 0) dX12_judge_20 (by decide) ?_
      refine x_sipush (v := 400) dX12_judge_21 (by decide) ?_
      refine x_cS3 dX12_judge_24 ls_X12_145 rfl  (c_X12_isIn ?_)
      refine x_if_ne_b (tgt := 33) dX12_judge_27 (by decide) (fun h27 => ?_) (fun h27 => ?_)
      · have hq := fan_t hq ⟨Int32.not_lt.mp h6, Int32.not_le.mp h16, h27⟩
        refine x_aload_n dX12_judge_33 rfl rfl ?_
        refine x_iload_n dX12_judge_34 rfl rfl ?_
        refine x_cV1 dX12_judge_35 lv_X12_396 mm_obj rfl rfl rfl  (c_X12_priceOf hi hc ?_)
        refine x_iload_n dX12_judge_38 rfl rfl ?_
        refine x_icmp_le (tgt := 46) dX12_judge_39 (by decide) (fun h39 => ?_) (fun h39 => ?_)
        · refine x_aload_n dX12_judge_46 rfl rfl ?_
          refine x_iload_n dX12_judge_47 rfl rfl ?_
          refine x_cV1 dX12_judge_48 lv_X12_399 mm_obj rfl rfl rfl  (c_X12_sortsOf hi hc ?_)
          exact x_ireturn dX12_judge_51 rfl rfl (by first | (rw [if_neg (Int32.not_lt.mpr h39)] at hq; exact hq) | (rw [if_pos (Int32.not_le.mp h39)] at hq; exact hq))
        · refine x_iconst (v := -1) dX12_judge_42 (by decide) ?_
          refine x_goto (tgt := 51) dX12_judge_43 (by decide) ?_
          exact x_ireturn dX12_judge_51 rfl rfl (by first | (rw [if_neg (Int32.not_lt.mpr h39)] at hq; exact hq) | (rw [if_pos (Int32.not_le.mp h39)] at hq; exact hq))
      · refine x_bipush (v := -2) dX12_judge_30 (by decide) ?_
        exact x_ireturn dX12_judge_32 rfl rfl (fan_f hq (fun z => by first | exact absurd h6 (Int32.not_lt.mpr z.1) | exact absurd z.2.1 (Int32.not_lt.mpr h16) | exact h27 z.2.2))
end MDC
