/-! the class, 20: counts; a line's parts -/
section CNT
variable {G : Gam} {d : Nat} {τ : Nat → Nat} {ω : Nat → Nat → Nat} {ε : Nat → Nat} {σ κ : MS} {Md : Mem} {M : Mem} {Q : Option Value → Mem → Prop} {k : Nat}
theorem c_X8_watchers (hi : adOK τ) (hT : TabK σ κ) (hq : Q (some (.int (σ.1 59))) (cm τ κ Md)) : CT G d (0, 0) MX8_watchers [.ref (τ 9)] (cm τ κ Md) Q := by
  refine CT.of rfl (Nat.le_of_ble_eq_true rfl) ?_
  refine x_aload_n dX8_watchers_0 rfl rfl ?_
  refine x_getf dX8_watchers_1 lf_X8_30 (kc hi kf_9) kv_9_2 ?_
  rw [hT.1]
  exact x_ireturn dX8_watchers_4 rfl rfl (hq)
theorem c_X1_part {j w : Nat} (hi : adOK τ) (hD : Dyn G τ ω ε σ Md) (hj : j < cn σ 16) (hw : w ≤ 6) (hq : Q (some (.int (vTold σ j (nI w)))) (cm τ κ Md)) : CT G d (0, 0) MX1_part [.ref (ω 2 j), .int (nI w)] (cm τ κ Md) Q := by
  have hw7 : w = 0 ∨ w = 1 ∨ w = 2 ∨ w = 3 ∨ w = 4 ∨ w = 5 ∨ w = 6 := by omega
  refine CT.of rfl (Nat.le_of_ble_eq_true rfl) ?_
  refine x_iload_n dX1_part_0 rfl rfl ?_
  rcases hw7 with rfl | rfl | rfl | rfl | rfl | rfl | rfl
  · refine x_tableIn (off := 39) (tgt := 40) dX1_part_1 (by decide) (by decide) (by decide) (by decide) ?_
    refine x_aload_n dX1_part_40 rfl rfl ?_
    refine x_getf dX1_part_41 lf_X1_7 (ob_2 hD hj) ov_2_0 ?_
    refine x_getf dX1_part_44 lf_X1_32 (ob_1 hD (hD.wr hj)) (ov_w hD hj) ?_
    exact x_ireturn dX1_part_47 rfl rfl (hq)
  · refine x_tableIn (off := 47) (tgt := 48) dX1_part_1 (by decide) (by decide) (by decide) (by decide) ?_
    refine x_aload_n dX1_part_48 rfl rfl ?_
    refine x_getf dX1_part_49 lf_X1_13 (ob_2 hD hj) ov_2_1 ?_
    exact x_ireturn dX1_part_52 rfl rfl (hq)
  · refine x_tableIn (off := 52) (tgt := 53) dX1_part_1 (by decide) (by decide) (by decide) (by decide) ?_
    refine x_aload_n dX1_part_53 rfl rfl ?_
    refine x_getf dX1_part_54 lf_X1_17 (ob_2 hD hj) ov_2_2 ?_
    exact x_ireturn dX1_part_57 rfl rfl (hq)
  · refine x_tableIn (off := 57) (tgt := 58) dX1_part_1 (by decide) (by decide) (by decide) (by decide) ?_
    refine x_aload_n dX1_part_58 rfl rfl ?_
    refine x_getf dX1_part_59 lf_X1_20 (ob_2 hD hj) ov_2_3 ?_
    exact x_ireturn dX1_part_62 rfl rfl (hq)
  · refine x_tableIn (off := 62) (tgt := 63) dX1_part_1 (by decide) (by decide) (by decide) (by decide) ?_
    refine x_aload_n dX1_part_63 rfl rfl ?_
    refine x_getf dX1_part_64 lf_X1_23 (ob_2 hD hj) ov_2_4 ?_
    exact x_ireturn dX1_part_67 rfl rfl (hq)
  · refine x_tableIn (off := 67) (tgt := 68) dX1_part_1 (by decide) (by decide) (by decide) (by decide) ?_
    refine x_aload_n dX1_part_68 rfl rfl ?_
    refine x_getf dX1_part_69 lf_X1_26 (ob_2 hD hj) ov_2_5 ?_
    exact x_ireturn dX1_part_72 rfl rfl (hq)
  · refine x_tableOut (tgt := 73) dX1_part_1 (Or.inr (by decide)) (by decide) ?_
    refine x_aload_n dX1_part_73 rfl rfl ?_
    refine x_getf dX1_part_74 lf_X1_29 (ob_2 hD hj) ov_2_6 ?_
    exact x_ireturn dX1_part_77 rfl rfl (hq)
theorem c_X11_count {w : Int32} (hW : Wld G τ ω ε σ κ Md) (hq : Q (some (.int (aCount σ w))) (cm τ κ Md)) : CT G (d + 6) (0, 0) MX11_count [.ref (τ 0), .int w] (cm τ κ Md) Q := by
  have hW0 := hW
  obtain ⟨hi, hc, hD, hK⟩ := hW
  refine CT.of rfl (Nat.le_of_ble_eq_true rfl) ?_
  refine x_iload_n dX11_count_0 rfl rfl ?_
  by_cases hin : 0 ≤ w ∧ w ≤ 11
  · obtain ⟨j, hj, rfl⟩ := nI_of2 (M := 11) (n := 11) rfl (Int32.not_lt.mpr hin.1) hin.2
    have hj7 : j = 0 ∨ j = 1 ∨ j = 2 ∨ j = 3 ∨ j = 4 ∨ j = 5 ∨ j = 6 ∨ j = 7 ∨ j = 8 ∨ j = 9 ∨ j = 10 ∨ j = 11 := by omega
    rcases hj7 with rfl | rfl | rfl | rfl | rfl | rfl | rfl | rfl | rfl | rfl | rfl | rfl
    · refine x_tableIn (off := 63) (tgt := 64) dX11_count_1 (by decide) (by decide) (by decide) (by decide) ?_
      refine x_aload_n dX11_count_64 rfl rfl ?_
      refine x_getf dX11_count_65 lf_X11_88 (kc hi kf_0) kv_0_0 ?_
      rw [hK.1]
      exact x_ireturn dX11_count_68 rfl rfl (hq)
    · refine x_tableIn (off := 68) (tgt := 69) dX11_count_1 (by decide) (by decide) (by decide) (by decide) ?_
      refine x_aload_n dX11_count_69 rfl rfl ?_
      refine x_getf dX11_count_70 lf_X11_10 (kc hi kf_0) kv_0_1 ?_
      refine x_cV0 dX11_count_73 lv_X11_100 (hD.lc 1 li_1) rfl rfl rfl (c_lsz_1 hD ?_)
      exact x_ireturn dX11_count_76 rfl rfl (fin hq (hc.b 15 (b := 24) (by decide)).1)
    · refine x_tableIn (off := 76) (tgt := 77) dX11_count_1 (by decide) (by decide) (by decide) (by decide) ?_
      refine x_aload_n dX11_count_77 rfl rfl ?_
      refine x_getf dX11_count_78 lf_X11_16 (kc hi kf_0) kv_0_2 ?_
      refine x_cV0 dX11_count_81 lv_X11_100 (hD.lc 2 li_2) rfl rfl rfl (c_lsz_2 hD ?_)
      exact x_ireturn dX11_count_84 rfl rfl (fin hq (hc.b 16 (b := 200) (by decide)).1)
    · refine x_tableIn (off := 84) (tgt := 85) dX11_count_1 (by decide) (by decide) (by decide) (by decide) ?_
      refine x_aload_n dX11_count_85 rfl rfl ?_
      refine x_getf dX11_count_86 lf_X11_22 (kc hi kf_0) kv_0_4 ?_
      refine x_cV0 dX11_count_89 lv_X11_100 (hD.lc 4 li_4) rfl rfl rfl (c_lsz_4 hD ?_)
      exact x_ireturn dX11_count_92 rfl rfl (fin hq (hc.b 25 (b := 20) (by decide)).1)
    · refine x_tableIn (off := 92) (tgt := 93) dX11_count_1 (by decide) (by decide) (by decide) (by decide) ?_
      refine x_aload_n dX11_count_93 rfl rfl ?_
      refine x_getf dX11_count_94 lf_X11_25 (kc hi kf_0) kv_0_5 ?_
      refine x_cV0 dX11_count_97 lv_X11_100 (hD.lc 5 li_5) rfl rfl rfl (c_lsz_5 hD ?_)
      exact x_ireturn dX11_count_100 rfl rfl (fin hq (hc.b 44 (b := 100) (by decide)).1)
    · refine x_tableIn (off := 100) (tgt := 101) dX11_count_1 (by decide) (by decide) (by decide) (by decide) ?_
      refine x_aload_n dX11_count_101 rfl rfl ?_
      refine x_getf dX11_count_102 lf_X11_28 (kc hi kf_0) kv_0_6 ?_
      refine x_cV0 dX11_count_105 lv_X11_100 (hD.lc 6 li_6) rfl rfl rfl (c_lsz_6 hD ?_)
      exact x_ireturn dX11_count_108 rfl rfl (fin hq (hc.b 49 (b := 200) (by decide)).1)
    · refine x_tableIn (off := 108) (tgt := 109) dX11_count_1 (by decide) (by decide) (by decide) (by decide) ?_
      refine x_aload_n dX11_count_109 rfl rfl ?_
      refine x_getf dX11_count_110 lf_X11_44 (kc hi kf_0) kv_0_9 ?_
      refine x_cV0 dX11_count_113 lv_X11_443 (kc hi kf_9) rfl rfl rfl  (c_X8_watchers hi hK.2.2.2.1 ?_)
      exact x_ireturn dX11_count_116 rfl rfl (hq)
    · refine x_tableIn (off := 116) (tgt := 117) dX11_count_1 (by decide) (by decide) (by decide) (by decide) ?_
      refine x_aload_n dX11_count_117 rfl rfl ?_
      refine x_getf dX11_count_118 lf_X11_44 (kc hi kf_0) kv_0_9 ?_
      refine x_cV0 dX11_count_121 lv_X11_382 (kc hi kf_9) rfl rfl rfl  (c_X8_wanted hi hK.2.2.2.1 ?_)
      exact x_ireturn dX11_count_124 rfl rfl (hq)
    · refine x_tableIn (off := 124) (tgt := 125) dX11_count_1 (by decide) (by decide) (by decide) (by decide) ?_
      refine x_aload_n dX11_count_125 rfl rfl ?_
      refine x_getf dX11_count_126 lf_X11_31 (kc hi kf_0) kv_0_7 ?_
      refine x_cV0 dX11_count_129 lv_X11_100 (hD.lc 7 li_7) rfl rfl rfl (c_lsz_7 hD ?_)
      exact x_ireturn dX11_count_132 rfl rfl (fin hq (hc.b 65 (b := 8) (by decide)).1)
    · refine x_tableIn (off := 132) (tgt := 133) dX11_count_1 (by decide) (by decide) (by decide) (by decide) ?_
      refine x_aload_n dX11_count_133 rfl rfl ?_
      refine x_getf dX11_count_134 lf_X11_37 (kc hi kf_0) kv_0_8 ?_
      refine x_cV0 dX11_count_137 lv_X11_177 (kc hi kf_8) rfl rfl rfl  (c_X9_length hi ?_)
      exact x_ireturn dX11_count_140 rfl rfl (fin hq hK.2.1.symm)
    · refine x_tableIn (off := 140) (tgt := 141) dX11_count_1 (by decide) (by decide) (by decide) (by decide) ?_
      refine x_aload_n dX11_count_141 rfl rfl ?_
      refine x_cV0 dX11_count_142 lv_X11_446 (kc hi kf_0) rfl rfl rfl  (c_X11_personsGone hW0 ?_)
      exact x_ireturn dX11_count_145 rfl rfl (hq)
    · refine x_tableIn (off := 145) (tgt := 146) dX11_count_1 (by decide) (by decide) (by decide) (by decide) ?_
      refine x_aload_n dX11_count_146 rfl rfl ?_
      refine x_cV0 dX11_count_147 lv_X11_342 (kc hi kf_0) rfl rfl rfl  (c_X11_allPeople hW0 ?_)
      exact x_ireturn dX11_count_150 rfl rfl (hq)
  · have hno : ∀ j : Nat, j ≤ 11 → ¬ w = nI j := fun j hj z => hin (by rw [z]; exact ⟨nI_pos' (by omega), nI_le (b := 11) hj (by decide)⟩)
    have h1 : aCount σ w = -1 := by
      unfold aCount
      rw [if_neg (show ¬ w = 0 from hno 0 (by decide)), if_neg (show ¬ w = 1 from hno 1 (by decide)), if_neg (show ¬ w = 2 from hno 2 (by decide)), if_neg (show ¬ w = 3 from hno 3 (by decide)), if_neg (show ¬ w = 4 from hno 4 (by decide)), if_neg (show ¬ w = 5 from hno 5 (by decide)), if_neg (show ¬ w = 6 from hno 6 (by decide)), if_neg (show ¬ w = 7 from hno 7 (by decide)), if_neg (show ¬ w = 8 from hno 8 (by decide)), if_neg (show ¬ w = 9 from hno 9 (by decide)), if_neg (show ¬ w = 10 from hno 10 (by decide)), if_neg (show ¬ w = 11 from hno 11 (by decide))]
    rw [h1] at hq
    refine x_tableOut (tgt := 151) dX11_count_1 ?_ (by decide) ?_
    · have e11 : (11 : Int32).toInt = 11 := rfl
      rw [Int32.le_iff_toInt_le, Int32.le_iff_toInt_le, e11] at hin
      have e0 : (0 : Int32).toInt = 0 := rfl
      rw [e0] at hin
      omega
    refine x_iconst (v := -1) dX11_count_151 (by decide) ?_
    exact x_ireturn dX11_count_152 rfl rfl (hq)
end CNT
