/-! the class, 3: ways, truths, who is alike, questions, leanings -/
theorem sh1 : ∀ l, l < 32 → ((1 : Int32) <<< (nI l &&& 31)).toBitVec = BitVec.twoPow 32 l := by decide +kernel
theorem mt_bit (m : Int32) (l : Nat) (hl : l < 32) : m &&& ((1 : Int32) <<< (nI l &&& 31)) = 0 ↔ m.toBitVec.getLsbD l = false := by
  rw [← Int32.toBitVec_inj, Int32.toBitVec_and, sh1 l hl, BitVec.and_twoPow]
  show (if m.toBitVec.getLsbD l = true then BitVec.twoPow 32 l else 0#32) = 0#32 ↔ _
  have htp : ∀ l, l < 32 → BitVec.twoPow 32 l ≠ 0#32 := by decide +kernel
  cases m.toBitVec.getLsbD l with
  | false => exact ⟨fun _ => rfl, fun _ => by simp⟩
  | true => exact ⟨fun z => absurd ((if_pos rfl).symm.trans z) (htp l hl), fun z => absurd z (by decide)⟩
/-- persons met, as bits -/
def mkM : List Int32 → Int32
  | [] => 0
  | x :: t => mkM t ||| ((1 : Int32) <<< (x &&& 31))
theorem mkM_bit : ∀ (L : List Int32), (∀ x ∈ L, ∃ j, j < 24 ∧ x = nI j) → ∀ l, l < 24 → ((mkM L).toBitVec.getLsbD l = true ↔ nI l ∈ L)
  | [], _, l, _ => by
    constructor
    · intro h
      have : (0 : Int32).toBitVec.getLsbD l = false := by simp
      unfold mkM at h
      rw [this] at h; cases h
    · intro h; cases h
  | x :: t, h, l, hl => by
    obtain ⟨j, hj, rfl⟩ := h x List.mem_cons_self
    have ih := mkM_bit t (fun y hy => h y (List.mem_cons_of_mem _ hy)) l hl
    unfold mkM
    rw [Int32.toBitVec_or, BitVec.getLsbD_or, sh1 j (by omega), BitVec.getLsbD_twoPow, Bool.or_eq_true_iff, ih, List.mem_cons, Bool.and_eq_true_iff, decide_eq_true_iff, decide_eq_true_iff, nI_eq (by omega) (by omega)]
    constructor
    · rintro (z | z)
      · exact Or.inr z
      · exact Or.inl z.2.symm
    · rintro (z | z)
      · exact Or.inr ⟨by omega, z.symm⟩
      · exact Or.inl z
theorem mkM_in {L : List Int32} (h : ∀ x ∈ L, ∃ j, j < 24 ∧ x = nI j) {l : Nat} (hl : l < 24) : mkM L &&& ((1 : Int32) <<< (nI l &&& 31)) = 0 ↔ ¬ nI l ∈ L := by
  rw [mt_bit _ _ (by omega), ← mkM_bit L h l hl]
  cases (mkM L).toBitVec.getLsbD l <;> simp
section CLC
variable {G : Gam} {d : Nat} {τ : Nat → Nat} {ω : Nat → Nat → Nat} {ε : Nat → Nat} {σ κ : MS} {Md : Mem} {M : Mem} {Q : Option Value → Mem → Prop} {k : Nat}
theorem c_X11_bearers {say q : Int32} (hW : Wld G τ ω ε σ κ Md) (hq : Q (some (.int (aBear σ say q))) (cm τ κ Md)) : CT G (d + 4) (0, 0) MX11_bearers [.ref (τ 0), .int say, .int q] (cm τ κ Md) Q := by
  have hW' := hW
  obtain ⟨hi, hc, hD, hK⟩ := hW
  obtain ⟨hp1, hp2⟩ := hc.b 15 (b := 24) (by decide)
  refine CT.of rfl (Nat.le_of_ble_eq_true rfl) ?_
  refine x_iload_n dX11_bearers_0 rfl rfl ?_
  refine x_cS1 dX11_bearers_1 ls_X11_133 rfl  (c_X11_isSaying ?_)
  refine x_if_eq_b (tgt := 15) dX11_bearers_4 (by decide) (fun h4 => ?_) (fun h4 => ?_)
  · refine x_iconst (v := -1) dX11_bearers_15 (by decide) ?_
    exact x_ireturn dX11_bearers_16 rfl rfl (fan_f hq (fun z => by first | exact h4 z.1 | exact h12 z.2))
  · refine x_aload_n dX11_bearers_7 rfl rfl ?_
    refine x_iload_n dX11_bearers_8 rfl rfl ?_
    refine x_cV1 dX11_bearers_9 lv_X11_158 (kc hi kf_0) rfl rfl rfl  (c_X11_isKnownDay hW' ?_)
    refine x_if_ne_b (tgt := 17) dX11_bearers_12 (by decide) (fun h12 => ?_) (fun h12 => ?_)
    · refine x_iconst (v := 0) dX11_bearers_17 (by decide) ?_
      refine x_istore_n dX11_bearers_18 rfl (by decide) ?_
      refine x_iconst (v := 0) dX11_bearers_19 (by decide) ?_
      refine x_istore dX11_bearers_20 (by decide) ?_
      have h2 := fan_t hq ⟨h4, h12⟩
      refine x_loc [(0, .ref (τ 0)), (1, .int say), (2, .int q), (3, .int (spBear σ say q 0)), (4, .int (nI 0))] ⟨rfl, rfl, rfl, rfl, rfl, trivial⟩ ?_
      refine loop_up (P := fun i => XJ G (d + 4) (0, 0) MX11_bearers (cm τ κ Md) [(0, .ref (τ 0)), (1, .int say), (2, .int q), (3, .int (spBear σ say q i)), (4, .int (nI i))] [] 22 Q) (n := cn σ 15) ?_ ?_ 0 (Nat.zero_le _)
      · refine x_iload dX11_bearers_22 rfl ?_
        refine x_aload_n dX11_bearers_24 rfl rfl ?_
        refine x_getf dX11_bearers_25 lf_X11_10 (kc hi kf_0) kv_0_1 ?_
        refine x_cV0 dX11_bearers_28 lv_X11_100 (hD.lc 1 li_1) rfl rfl rfl (c_lsz_1 hD ?_)
        refine x_icmp_ge (tgt := 54) dX11_bearers_31 (by decide) (fun _ => ?_) (fun z => absurd (loopT rfl) z)
        refine x_iload_n dX11_bearers_54 rfl rfl ?_
        exact x_ireturn dX11_bearers_55 rfl rfl (h2)
      · intro i hlt ih
        have es : spBear σ say q (i + 1) = if spWord σ (nI i) say q (cn σ 16) = -1 then spBear σ say q i else spBear σ say q i + 1 := rfl
        refine x_iload dX11_bearers_22 rfl ?_
        refine x_aload_n dX11_bearers_24 rfl rfl ?_
        refine x_getf dX11_bearers_25 lf_X11_10 (kc hi kf_0) kv_0_1 ?_
        refine x_cV0 dX11_bearers_28 lv_X11_100 (hD.lc 1 li_1) rfl rfl rfl (c_lsz_1 hD ?_)
        refine x_icmp_ge (tgt := 54) dX11_bearers_31 (by decide) (fun z => absurd z (loopF rfl hlt (by omega))) (fun _ => ?_)
        refine x_aload_n dX11_bearers_34 rfl rfl ?_
        refine x_iload dX11_bearers_35 rfl ?_
        refine x_iload_n dX11_bearers_37 rfl rfl ?_
        refine x_iload_n dX11_bearers_38 rfl rfl ?_
        rcases spWord_cases (σ := σ) (p := nI i) (say := say) (q := q) (cn σ 16) with hw | ⟨j, hj, hw⟩
        · rw [if_pos hw] at es
          refine x_cV3 dX11_bearers_39 lv_X11_301 (kc hi kf_0) rfl rfl rfl  (c_X11_wordOf hW' ?_)
          rw [wdV_n hw]
          refine x_ifnullN (tgt := 48) dX11_bearers_42 (by decide) ?_
          refine x_iinc (c := 1) dX11_bearers_48 rfl (by decide) ?_
          refine x_goto (tgt := 22) dX11_bearers_51 (by decide) ?_
          refine x_loc _ (?_ : lle _ _) ih
          refine ⟨rfl, rfl, rfl, ?_, ?_, trivial⟩
          · show some (Value.int _) = some (Value.int _)
            rw [es]
          · show some (Value.int (nI i + 1)) = some (Value.int (nI (i + 1)))
            rw [nI_1]
        · have hne : ¬ spWord σ (nI i) say q (cn σ 16) = -1 := by rw [hw]; exact nI_n1 (by have := (hc.b 16 (b := 200) (by decide)).2; omega)
          rw [if_neg hne] at es
          refine x_cV3 dX11_bearers_39 lv_X11_301 (kc hi kf_0) rfl rfl rfl  (c_X11_wordOf hW' ?_)
          rw [hw, wdV_r (by have := (hc.b 16 (b := 200) (by decide)).2; omega)]
          refine x_ifnull dX11_bearers_42 ?_
          refine x_iinc (c := 1) dX11_bearers_45 rfl (by decide) ?_
          refine x_iinc (c := 1) dX11_bearers_48 rfl (by decide) ?_
          refine x_goto (tgt := 22) dX11_bearers_51 (by decide) ?_
          refine x_loc _ (?_ : lle _ _) ih
          refine ⟨rfl, rfl, rfl, ?_, ?_, trivial⟩
          · show some (Value.int _) = some (Value.int _)
            rw [es]
          · show some (Value.int (nI i + 1)) = some (Value.int (nI (i + 1)))
            rw [nI_1]
    · refine x_iconst (v := -1) dX11_bearers_15 (by decide) ?_
      exact x_ireturn dX11_bearers_16 rfl rfl (fan_f hq (fun z => by first | exact h4 z.1 | exact h12 z.2))
theorem c_X0_isOf {i : Nat} {a b c : Int32} (hD : Dyn G τ ω ε σ Md) (hj : i < cn σ 44) (hq : Q (some (.int (bI (σ.2 38 i = a ∧ σ.2 39 i = b ∧ σ.2 40 i = c)))) (cm τ κ Md)) : CT G d (0, 0) MX0_isOf [.ref (ω 5 i), .int a, .int b, .int c] (cm τ κ Md) Q := by
  refine CT.of rfl (Nat.le_of_ble_eq_true rfl) ?_
  refine x_aload_n dX0_isOf_0 rfl rfl ?_
  refine x_getf dX0_isOf_1 lf_X0_7 (ob_5 hD hj) ov_5_0 ?_
  refine x_iload_n dX0_isOf_4 rfl rfl ?_
  refine x_icmp_ne (tgt := 28) dX0_isOf_5 (by decide) (fun h5 => ?_) (fun h5 => ?_)
  · refine x_iconst (v := 0) dX0_isOf_28 (by decide) ?_
    exact x_ireturn dX0_isOf_29 rfl rfl (fin hq (by first | exact bI_t ⟨h5, h13, h21⟩ | exact bI_f (fun z => h5 z.1) | exact bI_f (fun z => h13 z.2.1) | exact bI_f (fun z => h21 z.2.2)))
  · refine x_aload_n dX0_isOf_8 rfl rfl ?_
    refine x_getf dX0_isOf_9 lf_X0_13 (ob_5 hD hj) ov_5_1 ?_
    refine x_iload_n dX0_isOf_12 rfl rfl ?_
    refine x_icmp_ne (tgt := 28) dX0_isOf_13 (by decide) (fun h13 => ?_) (fun h13 => ?_)
    · refine x_iconst (v := 0) dX0_isOf_28 (by decide) ?_
      exact x_ireturn dX0_isOf_29 rfl rfl (fin hq (by first | exact bI_t ⟨h5, h13, h21⟩ | exact bI_f (fun z => h5 z.1) | exact bI_f (fun z => h13 z.2.1) | exact bI_f (fun z => h21 z.2.2)))
    · refine x_aload_n dX0_isOf_16 rfl rfl ?_
      refine x_getf dX0_isOf_17 lf_X0_16 (ob_5 hD hj) ov_5_2 ?_
      refine x_iload_n dX0_isOf_20 rfl rfl ?_
      refine x_icmp_ne (tgt := 28) dX0_isOf_21 (by decide) (fun h21 => ?_) (fun h21 => ?_)
      · refine x_iconst (v := 0) dX0_isOf_28 (by decide) ?_
        exact x_ireturn dX0_isOf_29 rfl rfl (fin hq (by first | exact bI_t ⟨h5, h13, h21⟩ | exact bI_f (fun z => h5 z.1) | exact bI_f (fun z => h13 z.2.1) | exact bI_f (fun z => h21 z.2.2)))
      · refine x_iconst (v := 1) dX0_isOf_24 (by decide) ?_
        refine x_goto (tgt := 29) dX0_isOf_25 (by decide) ?_
        exact x_ireturn dX0_isOf_29 rfl rfl (fin hq (by first | exact bI_t ⟨h5, h13, h21⟩ | exact bI_f (fun z => h5 z.1) | exact bI_f (fun z => h13 z.2.1) | exact bI_f (fun z => h21 z.2.2)))
theorem c_X11_truth {l q : Int32} (hW : Wld G τ ω ε σ κ Md) (hL : LinP σ) (hq : Q (some (.int (aTruth σ l q))) (cm τ κ Md)) : CT G (d + 4) (0, 0) MX11_truth [.ref (τ 0), .int l, .int q] (cm τ κ Md) Q := by
  have hW' := hW
  obtain ⟨hi, hc, hD, hK⟩ := hW
  obtain ⟨hl1, hl2⟩ := hc.b 16 (b := 200) (by decide)
  obtain ⟨hp1, hp2⟩ := hc.b 15 (b := 24) (by decide)
  obtain ⟨hh1, hh2⟩ := hc.b 44 (b := 100) (by decide)
  refine CT.of rfl (Nat.le_of_ble_eq_true rfl) ?_
  refine x_aload_n dX11_truth_0 rfl rfl ?_
  refine x_iload_n dX11_truth_1 rfl rfl ?_
  refine x_iload_n dX11_truth_2 rfl rfl ?_
  refine x_cV2 dX11_truth_3 lv_X11_231 (kc hi kf_0) rfl rfl rfl  (c_X11_isLineKnown hW' ?_)
  refine x_if_ne_b (tgt := 11) dX11_truth_6 (by decide) (fun h6 => ?_) (fun h6 => ?_)
  · obtain ⟨j, hj, rfl⟩ := of_lt h6.1.1 h6.1.2 hl1 (by omega)
    have hcl : (nI j).toNatClampNeg = j := nI_clamp (by omega)
    have h2 := fan_t hq h6
    rw [hcl] at h2
    obtain ⟨pj, hpj, hpe⟩ := of_lt (hL j hj).1 (hL j hj).2 hp1 (by omega)
    have hclp : (nI pj).toNatClampNeg = pj := nI_clamp (by omega)
    have H : ∀ n, n ≤ cn σ 44 → Q (some (.int (spTruth σ j q n))) (cm τ κ Md) → XJ G (d + 4) (0, 0) MX11_truth (cm τ κ Md) [(0, .ref (τ 0)), (2, .int q), (3, .ref (ω 2 j)), (4, .int (σ.2 2 pj)), (5, .int (nI n - 1))] [] 43 Q := by
      intro n
      induction n with
      | zero =>
        intro _ hq
        refine x_iload dX11_truth_43 rfl ?_
        refine x_if_lt (tgt := 109) dX11_truth_45 (by decide) (fun _ => ?_) (fun z => absurd (by decide) z)
        refine x_iconst (v := 2) dX11_truth_109 (by decide) ?_
        exact x_ireturn dX11_truth_110 rfl rfl (hq)
      | succ n ih =>
        intro hn hq
        rw [nI_pred]
        have hlt : n < cn σ 44 := hn
        have e : spTruth σ j q (n + 1) = if σ.2 41 n ≤ q ∧ σ.2 38 n = σ.2 2 (σ.2 8 j).toNatClampNeg ∧ σ.2 39 n = σ.2 9 j ∧ σ.2 40 n = σ.2 10 j then (if σ.2 42 n = 0 then 0 else 1) else spTruth σ j q n := rfl
        rw [e, hpe, hclp] at hq
        refine x_iload dX11_truth_43 rfl ?_
        refine x_if_lt (tgt := 109) dX11_truth_45 (by decide) (fun z => absurd z (nI_pos (by omega))) (fun _ => ?_)
        refine x_aload_n dX11_truth_48 rfl rfl ?_
        refine x_getf dX11_truth_49 lf_X11_25 (kc hi kf_0) kv_0_5 ?_
        refine x_iload dX11_truth_52 rfl ?_
        refine x_cV1 dX11_truth_54 lv_X11_126 (hD.lc 5 li_5) rfl rfl rfl (c_lget (k := 5) hD li_5 hlt ?_)
        refine x_cast (q := (_, _, _)) dX11_truth_57 (show vwCl[1]? = some _ from rfl) tb772 (ob_5 hD hlt) ?_
        refine x_astore dX11_truth_60 (by decide) ?_
        refine x_aload dX11_truth_62 rfl ?_
        refine x_getf dX11_truth_64 lf_X11_293 (ob_5 hD hlt) ov_5_4 ?_
        refine x_iload_n dX11_truth_67 rfl rfl ?_
        refine x_icmp_gt (tgt := 103) dX11_truth_68 (by decide) (fun h68 => ?_) (fun h68 => ?_)
        · refine x_iinc (c := -1) dX11_truth_103 rfl (by decide) ?_
          refine x_goto (tgt := 43) dX11_truth_106 (by decide) ?_
          rw [if_neg (fun z => by
            first
            | exact absurd z.1 (Int32.not_le.mpr h68)
            | exact h86 z.2)] at hq
          refine x_loc _ (?_ : lle _ _) (ih (by omega) hq)
          refine ⟨rfl, rfl, rfl, rfl, ?_, trivial⟩
          show some (Value.int (nI n + -1)) = some (Value.int (nI n - 1))
          rw [Int32.sub_eq_add_neg]
        · refine x_aload dX11_truth_71 rfl ?_
          refine x_iload dX11_truth_73 rfl ?_
          refine x_aload_n dX11_truth_75 rfl rfl ?_
          refine x_getf dX11_truth_76 lf_X11_238 (ob_2 hD hj) ov_2_1 ?_
          refine x_aload_n dX11_truth_79 rfl rfl ?_
          refine x_getf dX11_truth_80 lf_X11_247 (ob_2 hD hj) ov_2_2 ?_
          refine x_cV3 dX11_truth_83 lv_X11_294 (ob_5 hD hlt) rfl rfl rfl  (c_X0_isOf hD hlt ?_)
          refine x_if_eq_b (tgt := 103) dX11_truth_86 (by decide) (fun h86 => ?_) (fun h86 => ?_)
          · refine x_iinc (c := -1) dX11_truth_103 rfl (by decide) ?_
            refine x_goto (tgt := 43) dX11_truth_106 (by decide) ?_
            rw [if_neg (fun z => by
              first
              | exact absurd z.1 (Int32.not_le.mpr h68)
              | exact h86 z.2)] at hq
            refine x_loc _ (?_ : lle _ _) (ih (by omega) hq)
            refine ⟨rfl, rfl, rfl, rfl, ?_, trivial⟩
            show some (Value.int (nI n + -1)) = some (Value.int (nI n - 1))
            rw [Int32.sub_eq_add_neg]
          · refine x_aload dX11_truth_89 rfl ?_
            refine x_getf dX11_truth_91 lf_X11_297 (ob_5 hD hlt) ov_5_3 ?_
            refine x_if_eq (tgt := 101) dX11_truth_94 (by decide) (fun h94 => ?_) (fun h94 => ?_)
            · refine x_iconst (v := 0) dX11_truth_101 (by decide) ?_
              exact x_ireturn dX11_truth_102 rfl rfl (by
rw [if_pos ⟨Int32.not_lt.mp h68, h86⟩] at hq
first
| (rw [if_pos h94] at hq; exact hq)
| (rw [if_neg h94] at hq; exact hq))
            · refine x_iconst (v := 1) dX11_truth_97 (by decide) ?_
              refine x_goto (tgt := 102) dX11_truth_98 (by decide) ?_
              exact x_ireturn dX11_truth_102 rfl rfl (by
rw [if_pos ⟨Int32.not_lt.mp h68, h86⟩] at hq
first
| (rw [if_pos h94] at hq; exact hq)
| (rw [if_neg h94] at hq; exact hq))
    refine x_aload_n dX11_truth_11 rfl rfl ?_
    refine x_getf dX11_truth_12 lf_X11_16 (kc hi kf_0) kv_0_2 ?_
    refine x_iload_n dX11_truth_15 rfl rfl ?_
    refine x_cV1 dX11_truth_16 lv_X11_126 (hD.lc 2 li_2) rfl rfl rfl (c_lget (k := 2) hD li_2 hj ?_)
    refine x_cast (q := (_, _, _)) dX11_truth_19 (show vwCl[2]? = some _ from rfl) tb367 (ob_2 hD hj) ?_
    refine x_astore_n dX11_truth_22 rfl (by decide) ?_
    refine x_aload_n dX11_truth_23 rfl rfl ?_
    refine x_getf dX11_truth_24 lf_X11_243 (ob_2 hD hj) ov_2_0 ?_
    refine x_getf dX11_truth_27 lf_X11_225 (ob_1 hD (hD.wr hj)) ov_1_1 ?_
    rw [show pw σ j = pj from (by unfold pw; rw [hpe]; exact hclp)]
    refine x_istore dX11_truth_30 (by decide) ?_
    refine x_aload_n dX11_truth_32 rfl rfl ?_
    refine x_getf dX11_truth_33 lf_X11_25 (kc hi kf_0) kv_0_5 ?_
    refine x_cV0 dX11_truth_36 lv_X11_100 (hD.lc 5 li_5) rfl rfl rfl (c_lsz_5 hD ?_)
    refine x_iconst (v := 1) dX11_truth_39 (by decide) ?_
    refine x_isub dX11_truth_40 ?_
    refine x_istore dX11_truth_41 (by decide) ?_
    refine x_loc _ (?_ : lle _ _) (H (cn σ 44) (Nat.le_refl _) h2)
    exact ⟨rfl, rfl, rfl, rfl, rfl, trivial⟩
  · refine x_iconst (v := -1) dX11_truth_9 (by decide) ?_
    exact x_ireturn dX11_truth_10 rfl rfl (fan_f hq h6)
theorem c_X4_isLike {p o : Nat} {by' : Int32} (hD : Dyn G τ ω ε σ Md) (hp : p < cn σ 15) (ho : o < cn σ 15) (hq : Q (some (.int (bI (like σ p o by')))) (cm τ κ Md)) : CT G d (0, 0) MX4_isLike [.ref (ω 1 p), .ref (ω 1 o), .int by'] (cm τ κ Md) Q := by
  refine CT.of rfl (Nat.le_of_ble_eq_true rfl) ?_
  refine x_iload_n dX4_isLike_0 rfl rfl ?_
  refine x_iconst (v := 1) dX4_isLike_1 (by decide) ?_
  refine x_iand dX4_isLike_2 ?_
  refine x_if_eq (tgt := 17) dX4_isLike_3 (by decide) (fun h3 => ?_) (fun h3 => ?_)
  · refine x_iload_n dX4_isLike_17 rfl rfl ?_
    refine x_iconst (v := 2) dX4_isLike_18 (by decide) ?_
    refine x_iand dX4_isLike_19 ?_
    refine x_if_eq (tgt := 34) dX4_isLike_20 (by decide) (fun h20 => ?_) (fun h20 => ?_)
    · refine x_iload_n dX4_isLike_34 rfl rfl ?_
      refine x_iconst (v := 4) dX4_isLike_35 (by decide) ?_
      refine x_iand dX4_isLike_36 ?_
      refine x_if_eq (tgt := 51) dX4_isLike_37 (by decide) (fun h37 => ?_) (fun h37 => ?_)
      · refine x_iconst (v := 1) dX4_isLike_51 (by decide) ?_
        refine x_goto (tgt := 56) dX4_isLike_52 (by decide) ?_
        exact x_ireturn dX4_isLike_56 rfl rfl (fin hq (by
unfold like
first
| exact bI_t ⟨by first | exact Or.inl h3 | exact Or.inr h14.symm, by first | exact Or.inl h20 | exact Or.inr h31.symm, by first | exact Or.inl h37 | exact Or.inr h48.symm⟩
| exact bI_f (fun z => z.1.elim h3 (fun y => h14 y.symm))
| exact bI_f (fun z => z.2.1.elim h20 (fun y => h31 y.symm))
| exact bI_f (fun z => z.2.2.elim h37 (fun y => h48 y.symm))))
      · refine x_aload_n dX4_isLike_40 rfl rfl ?_
        refine x_getf dX4_isLike_41 lf_X4_19 (ob_1 hD hp) ov_1_3 ?_
        refine x_aload_n dX4_isLike_44 rfl rfl ?_
        refine x_getf dX4_isLike_45 lf_X4_19 (ob_1 hD ho) ov_1_3 ?_
        refine x_icmp_ne (tgt := 55) dX4_isLike_48 (by decide) (fun h48 => ?_) (fun h48 => ?_)
        · refine x_iconst (v := 0) dX4_isLike_55 (by decide) ?_
          exact x_ireturn dX4_isLike_56 rfl rfl (fin hq (by
unfold like
first
| exact bI_t ⟨by first | exact Or.inl h3 | exact Or.inr h14.symm, by first | exact Or.inl h20 | exact Or.inr h31.symm, by first | exact Or.inl h37 | exact Or.inr h48.symm⟩
| exact bI_f (fun z => z.1.elim h3 (fun y => h14 y.symm))
| exact bI_f (fun z => z.2.1.elim h20 (fun y => h31 y.symm))
| exact bI_f (fun z => z.2.2.elim h37 (fun y => h48 y.symm))))
        · refine x_iconst (v := 1) dX4_isLike_51 (by decide) ?_
          refine x_goto (tgt := 56) dX4_isLike_52 (by decide) ?_
          exact x_ireturn dX4_isLike_56 rfl rfl (fin hq (by
unfold like
first
| exact bI_t ⟨by first | exact Or.inl h3 | exact Or.inr h14.symm, by first | exact Or.inl h20 | exact Or.inr h31.symm, by first | exact Or.inl h37 | exact Or.inr h48.symm⟩
| exact bI_f (fun z => z.1.elim h3 (fun y => h14 y.symm))
| exact bI_f (fun z => z.2.1.elim h20 (fun y => h31 y.symm))
| exact bI_f (fun z => z.2.2.elim h37 (fun y => h48 y.symm))))
    · refine x_aload_n dX4_isLike_23 rfl rfl ?_
      refine x_getf dX4_isLike_24 lf_X4_22 (ob_1 hD hp) ov_1_4 ?_
      refine x_aload_n dX4_isLike_27 rfl rfl ?_
      refine x_getf dX4_isLike_28 lf_X4_22 (ob_1 hD ho) ov_1_4 ?_
      refine x_icmp_ne (tgt := 55) dX4_isLike_31 (by decide) (fun h31 => ?_) (fun h31 => ?_)
      · refine x_iconst (v := 0) dX4_isLike_55 (by decide) ?_
        exact x_ireturn dX4_isLike_56 rfl rfl (fin hq (by
unfold like
first
| exact bI_t ⟨by first | exact Or.inl h3 | exact Or.inr h14.symm, by first | exact Or.inl h20 | exact Or.inr h31.symm, by first | exact Or.inl h37 | exact Or.inr h48.symm⟩
| exact bI_f (fun z => z.1.elim h3 (fun y => h14 y.symm))
| exact bI_f (fun z => z.2.1.elim h20 (fun y => h31 y.symm))
| exact bI_f (fun z => z.2.2.elim h37 (fun y => h48 y.symm))))
      · refine x_iload_n dX4_isLike_34 rfl rfl ?_
        refine x_iconst (v := 4) dX4_isLike_35 (by decide) ?_
        refine x_iand dX4_isLike_36 ?_
        refine x_if_eq (tgt := 51) dX4_isLike_37 (by decide) (fun h37 => ?_) (fun h37 => ?_)
        · refine x_iconst (v := 1) dX4_isLike_51 (by decide) ?_
          refine x_goto (tgt := 56) dX4_isLike_52 (by decide) ?_
          exact x_ireturn dX4_isLike_56 rfl rfl (fin hq (by
unfold like
first
| exact bI_t ⟨by first | exact Or.inl h3 | exact Or.inr h14.symm, by first | exact Or.inl h20 | exact Or.inr h31.symm, by first | exact Or.inl h37 | exact Or.inr h48.symm⟩
| exact bI_f (fun z => z.1.elim h3 (fun y => h14 y.symm))
| exact bI_f (fun z => z.2.1.elim h20 (fun y => h31 y.symm))
| exact bI_f (fun z => z.2.2.elim h37 (fun y => h48 y.symm))))
        · refine x_aload_n dX4_isLike_40 rfl rfl ?_
          refine x_getf dX4_isLike_41 lf_X4_19 (ob_1 hD hp) ov_1_3 ?_
          refine x_aload_n dX4_isLike_44 rfl rfl ?_
          refine x_getf dX4_isLike_45 lf_X4_19 (ob_1 hD ho) ov_1_3 ?_
          refine x_icmp_ne (tgt := 55) dX4_isLike_48 (by decide) (fun h48 => ?_) (fun h48 => ?_)
          · refine x_iconst (v := 0) dX4_isLike_55 (by decide) ?_
            exact x_ireturn dX4_isLike_56 rfl rfl (fin hq (by
unfold like
first
| exact bI_t ⟨by first | exact Or.inl h3 | exact Or.inr h14.symm, by first | exact Or.inl h20 | exact Or.inr h31.symm, by first | exact Or.inl h37 | exact Or.inr h48.symm⟩
| exact bI_f (fun z => z.1.elim h3 (fun y => h14 y.symm))
| exact bI_f (fun z => z.2.1.elim h20 (fun y => h31 y.symm))
| exact bI_f (fun z => z.2.2.elim h37 (fun y => h48 y.symm))))
          · refine x_iconst (v := 1) dX4_isLike_51 (by decide) ?_
            refine x_goto (tgt := 56) dX4_isLike_52 (by decide) ?_
            exact x_ireturn dX4_isLike_56 rfl rfl (fin hq (by
unfold like
first
| exact bI_t ⟨by first | exact Or.inl h3 | exact Or.inr h14.symm, by first | exact Or.inl h20 | exact Or.inr h31.symm, by first | exact Or.inl h37 | exact Or.inr h48.symm⟩
| exact bI_f (fun z => z.1.elim h3 (fun y => h14 y.symm))
| exact bI_f (fun z => z.2.1.elim h20 (fun y => h31 y.symm))
| exact bI_f (fun z => z.2.2.elim h37 (fun y => h48 y.symm))))
  · refine x_aload_n dX4_isLike_6 rfl rfl ?_
    refine x_getf dX4_isLike_7 lf_X4_13 (ob_1 hD hp) ov_1_1 ?_
    refine x_aload_n dX4_isLike_10 rfl rfl ?_
    refine x_getf dX4_isLike_11 lf_X4_13 (ob_1 hD ho) ov_1_1 ?_
    refine x_icmp_ne (tgt := 55) dX4_isLike_14 (by decide) (fun h14 => ?_) (fun h14 => ?_)
    · refine x_iconst (v := 0) dX4_isLike_55 (by decide) ?_
      exact x_ireturn dX4_isLike_56 rfl rfl (fin hq (by
unfold like
first
| exact bI_t ⟨by first | exact Or.inl h3 | exact Or.inr h14.symm, by first | exact Or.inl h20 | exact Or.inr h31.symm, by first | exact Or.inl h37 | exact Or.inr h48.symm⟩
| exact bI_f (fun z => z.1.elim h3 (fun y => h14 y.symm))
| exact bI_f (fun z => z.2.1.elim h20 (fun y => h31 y.symm))
| exact bI_f (fun z => z.2.2.elim h37 (fun y => h48 y.symm))))
    · refine x_iload_n dX4_isLike_17 rfl rfl ?_
      refine x_iconst (v := 2) dX4_isLike_18 (by decide) ?_
      refine x_iand dX4_isLike_19 ?_
      refine x_if_eq (tgt := 34) dX4_isLike_20 (by decide) (fun h20 => ?_) (fun h20 => ?_)
      · refine x_iload_n dX4_isLike_34 rfl rfl ?_
        refine x_iconst (v := 4) dX4_isLike_35 (by decide) ?_
        refine x_iand dX4_isLike_36 ?_
        refine x_if_eq (tgt := 51) dX4_isLike_37 (by decide) (fun h37 => ?_) (fun h37 => ?_)
        · refine x_iconst (v := 1) dX4_isLike_51 (by decide) ?_
          refine x_goto (tgt := 56) dX4_isLike_52 (by decide) ?_
          exact x_ireturn dX4_isLike_56 rfl rfl (fin hq (by
unfold like
first
| exact bI_t ⟨by first | exact Or.inl h3 | exact Or.inr h14.symm, by first | exact Or.inl h20 | exact Or.inr h31.symm, by first | exact Or.inl h37 | exact Or.inr h48.symm⟩
| exact bI_f (fun z => z.1.elim h3 (fun y => h14 y.symm))
| exact bI_f (fun z => z.2.1.elim h20 (fun y => h31 y.symm))
| exact bI_f (fun z => z.2.2.elim h37 (fun y => h48 y.symm))))
        · refine x_aload_n dX4_isLike_40 rfl rfl ?_
          refine x_getf dX4_isLike_41 lf_X4_19 (ob_1 hD hp) ov_1_3 ?_
          refine x_aload_n dX4_isLike_44 rfl rfl ?_
          refine x_getf dX4_isLike_45 lf_X4_19 (ob_1 hD ho) ov_1_3 ?_
          refine x_icmp_ne (tgt := 55) dX4_isLike_48 (by decide) (fun h48 => ?_) (fun h48 => ?_)
          · refine x_iconst (v := 0) dX4_isLike_55 (by decide) ?_
            exact x_ireturn dX4_isLike_56 rfl rfl (fin hq (by
unfold like
first
| exact bI_t ⟨by first | exact Or.inl h3 | exact Or.inr h14.symm, by first | exact Or.inl h20 | exact Or.inr h31.symm, by first | exact Or.inl h37 | exact Or.inr h48.symm⟩
| exact bI_f (fun z => z.1.elim h3 (fun y => h14 y.symm))
| exact bI_f (fun z => z.2.1.elim h20 (fun y => h31 y.symm))
| exact bI_f (fun z => z.2.2.elim h37 (fun y => h48 y.symm))))
          · refine x_iconst (v := 1) dX4_isLike_51 (by decide) ?_
            refine x_goto (tgt := 56) dX4_isLike_52 (by decide) ?_
            exact x_ireturn dX4_isLike_56 rfl rfl (fin hq (by
unfold like
first
| exact bI_t ⟨by first | exact Or.inl h3 | exact Or.inr h14.symm, by first | exact Or.inl h20 | exact Or.inr h31.symm, by first | exact Or.inl h37 | exact Or.inr h48.symm⟩
| exact bI_f (fun z => z.1.elim h3 (fun y => h14 y.symm))
| exact bI_f (fun z => z.2.1.elim h20 (fun y => h31 y.symm))
| exact bI_f (fun z => z.2.2.elim h37 (fun y => h48 y.symm))))
      · refine x_aload_n dX4_isLike_23 rfl rfl ?_
        refine x_getf dX4_isLike_24 lf_X4_22 (ob_1 hD hp) ov_1_4 ?_
        refine x_aload_n dX4_isLike_27 rfl rfl ?_
        refine x_getf dX4_isLike_28 lf_X4_22 (ob_1 hD ho) ov_1_4 ?_
        refine x_icmp_ne (tgt := 55) dX4_isLike_31 (by decide) (fun h31 => ?_) (fun h31 => ?_)
        · refine x_iconst (v := 0) dX4_isLike_55 (by decide) ?_
          exact x_ireturn dX4_isLike_56 rfl rfl (fin hq (by
unfold like
first
| exact bI_t ⟨by first | exact Or.inl h3 | exact Or.inr h14.symm, by first | exact Or.inl h20 | exact Or.inr h31.symm, by first | exact Or.inl h37 | exact Or.inr h48.symm⟩
| exact bI_f (fun z => z.1.elim h3 (fun y => h14 y.symm))
| exact bI_f (fun z => z.2.1.elim h20 (fun y => h31 y.symm))
| exact bI_f (fun z => z.2.2.elim h37 (fun y => h48 y.symm))))
        · refine x_iload_n dX4_isLike_34 rfl rfl ?_
          refine x_iconst (v := 4) dX4_isLike_35 (by decide) ?_
          refine x_iand dX4_isLike_36 ?_
          refine x_if_eq (tgt := 51) dX4_isLike_37 (by decide) (fun h37 => ?_) (fun h37 => ?_)
          · refine x_iconst (v := 1) dX4_isLike_51 (by decide) ?_
            refine x_goto (tgt := 56) dX4_isLike_52 (by decide) ?_
            exact x_ireturn dX4_isLike_56 rfl rfl (fin hq (by
unfold like
first
| exact bI_t ⟨by first | exact Or.inl h3 | exact Or.inr h14.symm, by first | exact Or.inl h20 | exact Or.inr h31.symm, by first | exact Or.inl h37 | exact Or.inr h48.symm⟩
| exact bI_f (fun z => z.1.elim h3 (fun y => h14 y.symm))
| exact bI_f (fun z => z.2.1.elim h20 (fun y => h31 y.symm))
| exact bI_f (fun z => z.2.2.elim h37 (fun y => h48 y.symm))))
          · refine x_aload_n dX4_isLike_40 rfl rfl ?_
            refine x_getf dX4_isLike_41 lf_X4_19 (ob_1 hD hp) ov_1_3 ?_
            refine x_aload_n dX4_isLike_44 rfl rfl ?_
            refine x_getf dX4_isLike_45 lf_X4_19 (ob_1 hD ho) ov_1_3 ?_
            refine x_icmp_ne (tgt := 55) dX4_isLike_48 (by decide) (fun h48 => ?_) (fun h48 => ?_)
            · refine x_iconst (v := 0) dX4_isLike_55 (by decide) ?_
              exact x_ireturn dX4_isLike_56 rfl rfl (fin hq (by
unfold like
first
| exact bI_t ⟨by first | exact Or.inl h3 | exact Or.inr h14.symm, by first | exact Or.inl h20 | exact Or.inr h31.symm, by first | exact Or.inl h37 | exact Or.inr h48.symm⟩
| exact bI_f (fun z => z.1.elim h3 (fun y => h14 y.symm))
| exact bI_f (fun z => z.2.1.elim h20 (fun y => h31 y.symm))
| exact bI_f (fun z => z.2.2.elim h37 (fun y => h48 y.symm))))
            · refine x_iconst (v := 1) dX4_isLike_51 (by decide) ?_
              refine x_goto (tgt := 56) dX4_isLike_52 (by decide) ?_
              exact x_ireturn dX4_isLike_56 rfl rfl (fin hq (by
unfold like
first
| exact bI_t ⟨by first | exact Or.inl h3 | exact Or.inr h14.symm, by first | exact Or.inl h20 | exact Or.inr h31.symm, by first | exact Or.inl h37 | exact Or.inr h48.symm⟩
| exact bI_f (fun z => z.1.elim h3 (fun y => h14 y.symm))
| exact bI_f (fun z => z.2.1.elim h20 (fun y => h31 y.symm))
| exact bI_f (fun z => z.2.2.elim h37 (fun y => h48 y.symm))))
theorem c_X11_alikeTo {p : Nat} {by' : Int32} (hW : Wld G τ ω ε σ κ Md) (hp : p < cn σ 15) (hq : Q (some (.int (spAlike σ p by' (cn σ 15)))) (cm τ κ Md)) : CT G (d + 3) (0, 0) MX11_alikeTo [.ref (τ 0), .ref (ω 1 p), .int by'] (cm τ κ Md) Q := by
  obtain ⟨hi, hc, hD, hK⟩ := hW
  obtain ⟨hp1, hp2⟩ := hc.b 15 (b := 24) (by decide)
  refine CT.of rfl (Nat.le_of_ble_eq_true rfl) ?_
  refine x_iconst (v := 0) dX11_alikeTo_0 (by decide) ?_
  refine x_istore_n dX11_alikeTo_1 rfl (by decide) ?_
  refine x_iconst (v := 0) dX11_alikeTo_2 (by decide) ?_
  refine x_istore dX11_alikeTo_3 (by decide) ?_
  refine x_loc [(0, .ref (τ 0)), (1, .ref (ω 1 p)), (2, .int by'), (3, .int (spAlike σ p by' 0)), (4, .int (nI 0))] ⟨rfl, rfl, rfl, rfl, rfl, trivial⟩ ?_
  refine loop_up (P := fun i => XJ G (d + 3) (0, 0) MX11_alikeTo (cm τ κ Md) [(0, .ref (τ 0)), (1, .ref (ω 1 p)), (2, .int by'), (3, .int (spAlike σ p by' i)), (4, .int (nI i))] [] 5 Q) (n := cn σ 15) ?_ ?_ 0 (Nat.zero_le _)
  · refine x_iload dX11_alikeTo_5 rfl ?_
    refine x_aload_n dX11_alikeTo_7 rfl rfl ?_
    refine x_getf dX11_alikeTo_8 lf_X11_10 (kc hi kf_0) kv_0_1 ?_
    refine x_cV0 dX11_alikeTo_11 lv_X11_100 (hD.lc 1 li_1) rfl rfl rfl (c_lsz_1 hD ?_)
    refine x_icmp_ge (tgt := 46) dX11_alikeTo_14 (by decide) (fun _ => ?_) (fun z => absurd (loopT rfl) z)
    refine x_iload_n dX11_alikeTo_46 rfl rfl ?_
    exact x_ireturn dX11_alikeTo_47 rfl rfl (hq)
  · intro i hlt ih
    have es : spAlike σ p by' (i + 1) = cI (like σ p i by') (spAlike σ p by' i + 1) (spAlike σ p by' i) := rfl
    refine x_iload dX11_alikeTo_5 rfl ?_
    refine x_aload_n dX11_alikeTo_7 rfl rfl ?_
    refine x_getf dX11_alikeTo_8 lf_X11_10 (kc hi kf_0) kv_0_1 ?_
    refine x_cV0 dX11_alikeTo_11 lv_X11_100 (hD.lc 1 li_1) rfl rfl rfl (c_lsz_1 hD ?_)
    refine x_icmp_ge (tgt := 46) dX11_alikeTo_14 (by decide) (fun z => absurd z (loopF rfl hlt (by omega))) (fun _ => ?_)
    refine x_aload_n dX11_alikeTo_17 rfl rfl ?_
    refine x_aload_n dX11_alikeTo_18 rfl rfl ?_
    refine x_getf dX11_alikeTo_19 lf_X11_10 (kc hi kf_0) kv_0_1 ?_
    refine x_iload dX11_alikeTo_22 rfl ?_
    refine x_cV1 dX11_alikeTo_24 lv_X11_126 (hD.lc 1 li_1) rfl rfl rfl (c_lget (k := 1) hD li_1 hlt ?_)
    refine x_cast (q := (_, _, _)) dX11_alikeTo_27 (show vwCl[5]? = some _ from rfl) tb237 (ob_1 hD hlt) ?_
    refine x_iload_n dX11_alikeTo_30 rfl rfl ?_
    refine x_cV2 dX11_alikeTo_31 lv_X11_392 (ob_1 hD hp) rfl rfl rfl  (c_X4_isLike hD hp hlt ?_)
    refine x_if_eq_b (tgt := 40) dX11_alikeTo_34 (by decide) (fun h34 => ?_) (fun h34 => ?_)
    · refine x_iinc (c := 1) dX11_alikeTo_40 rfl (by decide) ?_
      refine x_goto (tgt := 5) dX11_alikeTo_43 (by decide) ?_
      refine x_loc _ (?_ : lle _ _) ih
      refine ⟨rfl, rfl, rfl, ?_, ?_, trivial⟩
      · show some (Value.int _) = some (Value.int _)
        rw [es]
        first | rw [cI_f h34] | rw [cI_t h34]
      · show some (Value.int _) = some (Value.int (nI (i + 1)))
        rw [← nI_1]
    · refine x_iinc (c := 1) dX11_alikeTo_37 rfl (by decide) ?_
      refine x_iinc (c := 1) dX11_alikeTo_40 rfl (by decide) ?_
      refine x_goto (tgt := 5) dX11_alikeTo_43 (by decide) ?_
      refine x_loc _ (?_ : lle _ _) ih
      refine ⟨rfl, rfl, rfl, ?_, ?_, trivial⟩
      · show some (Value.int _) = some (Value.int _)
        rw [es]
        first | rw [cI_f h34] | rw [cI_t h34]
      · show some (Value.int _) = some (Value.int (nI (i + 1)))
        rw [← nI_1]
theorem c_X11_alike {p by' : Int32} (hW : Wld G τ ω ε σ κ Md) (hq : Q (some (.int (aAlike σ p by'))) (cm τ κ Md)) : CT G (d + 4) (0, 0) MX11_alike [.ref (τ 0), .int p, .int by'] (cm τ κ Md) Q := by
  have hW' := hW
  obtain ⟨hi, hc, hD, hK⟩ := hW
  obtain ⟨hp1, hp2⟩ := hc.b 15 (b := 24) (by decide)
  refine CT.of rfl (Nat.le_of_ble_eq_true rfl) ?_
  refine x_aload_n dX11_alike_0 rfl rfl ?_
  refine x_iload_n dX11_alike_1 rfl rfl ?_
  refine x_cV1 dX11_alike_2 lv_X11_112 (kc hi kf_0) rfl rfl rfl  (c_X11_isPerson hW' ?_)
  refine x_if_eq_b (tgt := 18) dX11_alike_5 (by decide) (fun h5 => ?_) (fun h5 => ?_)
  · refine x_iconst (v := -1) dX11_alike_18 (by decide) ?_
    exact x_ireturn dX11_alike_19 rfl rfl (fan_f hq (fun z => by first | exact h5 z.1 | exact h15 z.2))
  · refine x_iload_n dX11_alike_8 rfl rfl ?_
    refine x_iconst (v := 0) dX11_alike_9 (by decide) ?_
    refine x_bipush (v := 7) dX11_alike_10 (by decide) ?_
    refine x_cS3 dX11_alike_12 ls_X11_92 rfl  (c_X11_isWithin ?_)
    refine x_if_ne_b (tgt := 20) dX11_alike_15 (by decide) (fun h15 => ?_) (fun h15 => ?_)
    · obtain ⟨j, hj, rfl⟩ := of_lt h5.1 h5.2 hp1 (by omega)
      have h2 := fan_t hq ⟨h5, h15⟩
      rw [nI_clamp (by omega)] at h2
      refine x_aload_n dX11_alike_20 rfl rfl ?_
      refine x_aload_n dX11_alike_21 rfl rfl ?_
      refine x_getf dX11_alike_22 lf_X11_10 (kc hi kf_0) kv_0_1 ?_
      refine x_iload_n dX11_alike_25 rfl rfl ?_
      refine x_cV1 dX11_alike_26 lv_X11_126 (hD.lc 1 li_1) rfl rfl rfl (c_lget (k := 1) hD li_1 hj ?_)
      refine x_cast (q := (_, _, _)) dX11_alike_29 (show vwCl[5]? = some _ from rfl) tb237 (ob_1 hD hj) ?_
      refine x_iload_n dX11_alike_32 rfl rfl ?_
      refine x_cV2 dX11_alike_33 lv_X11_388 (kc hi kf_0) rfl rfl rfl  (c_X11_alikeTo hW' hj ?_)
      exact x_ireturn dX11_alike_36 rfl rfl (h2)
    · refine x_iconst (v := -1) dX11_alike_18 (by decide) ?_
      exact x_ireturn dX11_alike_19 rfl rfl (fan_f hq (fun z => by first | exact h5 z.1 | exact h15 z.2))
theorem c_X11_allHaveAlike {m by' : Int32} (hW : Wld G τ ω ε σ κ Md) (hq : Q (some (.int (bI (allA σ m by' (cn σ 15))))) (cm τ κ Md)) : CT G (d + 4) (0, 0) MX11_allHaveAlike [.ref (τ 0), .int m, .int by'] (cm τ κ Md) Q := by
  have hW' := hW
  obtain ⟨hi, hc, hD, hK⟩ := hW
  obtain ⟨hp1, hp2⟩ := hc.b 15 (b := 24) (by decide)
  refine CT.of rfl (Nat.le_of_ble_eq_true rfl) ?_
  refine x_iconst (v := 0) dX11_allHaveAlike_0 (by decide) ?_
  refine x_istore_n dX11_allHaveAlike_1 rfl (by decide) ?_
  refine x_loc [(0, .ref (τ 0)), (1, .int m), (2, .int by'), (3, .int (nI 0))] ⟨rfl, rfl, rfl, rfl, trivial⟩ ?_
  suffices H : ∀ f i, i + f = cn σ 15 → (∀ p, p < i → m ≤ spAlike σ p by' (cn σ 15)) → XJ G (d + 4) (0, 0) MX11_allHaveAlike (cm τ κ Md) [(0, .ref (τ 0)), (1, .int m), (2, .int by'), (3, .int (nI i))] [] 2 Q from H (cn σ 15) 0 (by omega) (fun p hp => absurd hp (Nat.not_lt_zero p))
  intro f
  induction f with
  | zero =>
    intro i hif hall
    obtain rfl : i = cn σ 15 := by omega
    refine x_iload_n dX11_allHaveAlike_2 rfl rfl ?_
    refine x_aload_n dX11_allHaveAlike_3 rfl rfl ?_
    refine x_getf dX11_allHaveAlike_4 lf_X11_10 (kc hi kf_0) kv_0_1 ?_
    refine x_cV0 dX11_allHaveAlike_7 lv_X11_100 (hD.lc 1 li_1) rfl rfl rfl (c_lsz_1 hD ?_)
    refine x_icmp_ge (tgt := 41) dX11_allHaveAlike_10 (by decide) (fun _ => ?_) (fun z => absurd (loopT rfl) z)
    refine x_iconst (v := 1) dX11_allHaveAlike_41 (by decide) ?_
    exact x_ireturn dX11_allHaveAlike_42 rfl rfl (fin hq (bI_t (fun p hp => hall p hp)))
  | succ f ih =>
    intro i hif hall
    have hlt : i < cn σ 15 := by omega
    refine x_iload_n dX11_allHaveAlike_2 rfl rfl ?_
    refine x_aload_n dX11_allHaveAlike_3 rfl rfl ?_
    refine x_getf dX11_allHaveAlike_4 lf_X11_10 (kc hi kf_0) kv_0_1 ?_
    refine x_cV0 dX11_allHaveAlike_7 lv_X11_100 (hD.lc 1 li_1) rfl rfl rfl (c_lsz_1 hD ?_)
    refine x_icmp_ge (tgt := 41) dX11_allHaveAlike_10 (by decide) (fun z => absurd z (loopF rfl hlt (by omega))) (fun _ => ?_)
    refine x_aload_n dX11_allHaveAlike_13 rfl rfl ?_
    refine x_aload_n dX11_allHaveAlike_14 rfl rfl ?_
    refine x_getf dX11_allHaveAlike_15 lf_X11_10 (kc hi kf_0) kv_0_1 ?_
    refine x_iload_n dX11_allHaveAlike_18 rfl rfl ?_
    refine x_cV1 dX11_allHaveAlike_19 lv_X11_126 (hD.lc 1 li_1) rfl rfl rfl (c_lget (k := 1) hD li_1 hlt ?_)
    refine x_cast (q := (_, _, _)) dX11_allHaveAlike_22 (show vwCl[5]? = some _ from rfl) tb237 (ob_1 hD hlt) ?_
    refine x_iload_n dX11_allHaveAlike_25 rfl rfl ?_
    refine x_cV2 dX11_allHaveAlike_26 lv_X11_388 (kc hi kf_0) rfl rfl rfl  (c_X11_alikeTo hW' hlt ?_)
    refine x_iload_n dX11_allHaveAlike_29 rfl rfl ?_
    refine x_icmp_ge (tgt := 35) dX11_allHaveAlike_30 (by decide) (fun h30 => ?_) (fun h30 => ?_)
    · refine x_iinc (c := 1) dX11_allHaveAlike_35 rfl (by decide) ?_
      refine x_goto (tgt := 2) dX11_allHaveAlike_38 (by decide) ?_
      refine x_loc _ (?_ : lle _ _) (ih (i + 1) (by omega) (fun p hp => ?_))
      · refine ⟨rfl, rfl, rfl, ?_, trivial⟩
        show some (Value.int (nI i + 1)) = some (Value.int (nI (i + 1)))
        rw [nI_1]
      · by_cases e : p = i
        · subst e; exact h30
        · exact hall p (by omega)
    · refine x_iconst (v := 0) dX11_allHaveAlike_33 (by decide) ?_
      exact x_ireturn dX11_allHaveAlike_34 rfl rfl (fin hq (bI_f (fun z => h30 (z i hlt))))
theorem c_X11_hasTheFirstUnlike {a b : Int32} (hq : Q (some (.int (bI (¬ a &&& (a ^^^ b) &&& -(a ^^^ b) = 0)))) M) : CT G d (0, 0) MX11_hasTheFirstUnlike [.int a, .int b] M Q := by
  refine CT.of rfl (Nat.le_of_ble_eq_true rfl) ?_
  refine x_iload_n dX11_hasTheFirstUnlike_0 rfl rfl ?_
  refine x_iload_n dX11_hasTheFirstUnlike_1 rfl rfl ?_
  refine x_ixor dX11_hasTheFirstUnlike_2 ?_
  refine x_istore_n dX11_hasTheFirstUnlike_3 rfl (by decide) ?_
  refine x_iload_n dX11_hasTheFirstUnlike_4 rfl rfl ?_
  refine x_iload_n dX11_hasTheFirstUnlike_5 rfl rfl ?_
  refine x_iand dX11_hasTheFirstUnlike_6 ?_
  refine x_iload_n dX11_hasTheFirstUnlike_7 rfl rfl ?_
  refine x_ineg dX11_hasTheFirstUnlike_8 ?_
  refine x_iand dX11_hasTheFirstUnlike_9 ?_
  refine x_if_eq (tgt := 17) dX11_hasTheFirstUnlike_10 (by decide) (fun h10 => ?_) (fun h10 => ?_)
  · refine x_iconst (v := 0) dX11_hasTheFirstUnlike_17 (by decide) ?_
    exact x_ireturn dX11_hasTheFirstUnlike_18 rfl rfl (fin hq (by first | exact bI_t h10 | exact bI_f (fun z => z h10)))
  · refine x_iconst (v := 1) dX11_hasTheFirstUnlike_13 (by decide) ?_
    refine x_goto (tgt := 18) dX11_hasTheFirstUnlike_14 (by decide) ?_
    exact x_ireturn dX11_hasTheFirstUnlike_18 rfl rfl (fin hq (by first | exact bI_t h10 | exact bI_f (fun z => z h10)))
theorem c_X11_priceOf {set : Int32} (hW : Wld G τ ω ε σ κ Md) (hq : Q (some (.int (spPrice σ set (cn σ 65)))) (cm τ κ Md)) : CT G (d + 3) (0, 0) MX11_priceOf [.ref (τ 0), .int set] (cm τ κ Md) Q := by
  obtain ⟨hi, hc, hD, hK⟩ := hW
  obtain ⟨hl1, hl2⟩ := hc.b 65 (b := 8) (by decide)
  refine CT.of rfl (Nat.le_of_ble_eq_true rfl) ?_
  refine x_iconst (v := 0) dX11_priceOf_0 (by decide) ?_
  refine x_istore_n dX11_priceOf_1 rfl (by decide) ?_
  refine x_iconst (v := 0) dX11_priceOf_2 (by decide) ?_
  refine x_istore_n dX11_priceOf_3 rfl (by decide) ?_
  refine x_loc [(0, .ref (τ 0)), (1, .int set), (2, .int (spPrice σ set 0)), (3, .int (nI 0))] ⟨rfl, rfl, rfl, rfl, trivial⟩ ?_
  refine loop_up (P := fun i => XJ G (d + 3) (0, 0) MX11_priceOf (cm τ κ Md) [(0, .ref (τ 0)), (1, .int set), (2, .int (spPrice σ set i)), (3, .int (nI i))] [] 4 Q) (n := cn σ 65) ?_ ?_ 0 (Nat.zero_le _)
  · refine x_iload_n dX11_priceOf_4 rfl rfl ?_
    refine x_aload_n dX11_priceOf_5 rfl rfl ?_
    refine x_getf dX11_priceOf_6 lf_X11_31 (kc hi kf_0) kv_0_7 ?_
    refine x_cV0 dX11_priceOf_9 lv_X11_100 (hD.lc 7 li_7) rfl rfl rfl (c_lsz_7 hD ?_)
    refine x_icmp_ge (tgt := 46) dX11_priceOf_12 (by decide) (fun _ => ?_) (fun z => absurd (loopT rfl) z)
    refine x_iload_n dX11_priceOf_46 rfl rfl ?_
    exact x_ireturn dX11_priceOf_47 rfl rfl (hq)
  · intro i hlt ih
    have es : spPrice σ set (i + 1) = if (set >>> (nI i &&& 31)) &&& 1 = 1 then spPrice σ set i + σ.2 62 i else spPrice σ set i := rfl
    refine x_iload_n dX11_priceOf_4 rfl rfl ?_
    refine x_aload_n dX11_priceOf_5 rfl rfl ?_
    refine x_getf dX11_priceOf_6 lf_X11_31 (kc hi kf_0) kv_0_7 ?_
    refine x_cV0 dX11_priceOf_9 lv_X11_100 (hD.lc 7 li_7) rfl rfl rfl (c_lsz_7 hD ?_)
    refine x_icmp_ge (tgt := 46) dX11_priceOf_12 (by decide) (fun z => absurd z (loopF rfl hlt (by omega))) (fun _ => ?_)
    refine x_iload_n dX11_priceOf_15 rfl rfl ?_
    refine x_iload_n dX11_priceOf_16 rfl rfl ?_
    refine x_ishr dX11_priceOf_17 ?_
    refine x_iconst (v := 1) dX11_priceOf_18 (by decide) ?_
    refine x_iand dX11_priceOf_19 ?_
    refine x_if_eq (tgt := 40) dX11_priceOf_20 (by decide) (fun h20 => ?_) (fun h20 => ?_)
    · refine x_iinc (c := 1) dX11_priceOf_40 rfl (by decide) ?_
      refine x_goto (tgt := 4) dX11_priceOf_43 (by decide) ?_
      refine x_loc _ (?_ : lle _ _) ih
      refine ⟨rfl, rfl, ?_, ?_, trivial⟩
      · show some (Value.int _) = some (Value.int _)
        rw [es]
        first | rw [if_pos (and1_ne.mp h20)] | rw [if_neg (fun z => and1_ne.mpr z h20)]
      · show some (Value.int _) = some (Value.int (nI (i + 1)))
        rw [← nI_1]
    · refine x_iload_n dX11_priceOf_23 rfl rfl ?_
      refine x_aload_n dX11_priceOf_24 rfl rfl ?_
      refine x_getf dX11_priceOf_25 lf_X11_31 (kc hi kf_0) kv_0_7 ?_
      refine x_iload_n dX11_priceOf_28 rfl rfl ?_
      refine x_cV1 dX11_priceOf_29 lv_X11_126 (hD.lc 7 li_7) rfl rfl rfl (c_lget (k := 7) hD li_7 hlt ?_)
      refine x_cast (q := (_, _, _)) dX11_priceOf_32 (show vwCl[6]? = some _ from rfl) tb1028 (ob_7 hD hlt) ?_
      refine x_getf dX11_priceOf_35 lf_X11_418 (ob_7 hD hlt) ov_7_0 ?_
      refine x_iadd dX11_priceOf_38 ?_
      refine x_istore_n dX11_priceOf_39 rfl (by decide) ?_
      refine x_iinc (c := 1) dX11_priceOf_40 rfl (by decide) ?_
      refine x_goto (tgt := 4) dX11_priceOf_43 (by decide) ?_
      refine x_loc _ (?_ : lle _ _) ih
      refine ⟨rfl, rfl, ?_, ?_, trivial⟩
      · show some (Value.int _) = some (Value.int _)
        rw [es]
        first | rw [if_pos (and1_ne.mp h20)] | rw [if_neg (fun z => and1_ne.mpr z h20)]
      · show some (Value.int _) = some (Value.int (nI (i + 1)))
        rw [← nI_1]
theorem c_X11_sortsOf {set : Int32} (hW : Wld G τ ω ε σ κ Md) (hq : Q (some (.int (spSorts σ set))) (cm τ κ Md)) : CT G (d + 3) (0, 0) MX11_sortsOf [.ref (τ 0), .int set] (cm τ κ Md) Q := by
  obtain ⟨hi, hc, hD, hK⟩ := hW
  obtain ⟨hl1, hl2⟩ := hc.b 65 (b := 8) (by decide)
  refine CT.of rfl (Nat.le_of_ble_eq_true rfl) ?_
  refine x_iconst (v := 0) dX11_sortsOf_0 (by decide) ?_
  refine x_istore_n dX11_sortsOf_1 rfl (by decide) ?_
  refine x_iconst (v := 0) dX11_sortsOf_2 (by decide) ?_
  refine x_istore_n dX11_sortsOf_3 rfl (by decide) ?_
  refine x_loc [(0, .ref (τ 0)), (1, .int set), (2, .int (spSortB σ set 0)), (3, .int (nI 0))] ⟨rfl, rfl, rfl, rfl, trivial⟩ ?_
  refine loop_up (P := fun i => XJ G (d + 3) (0, 0) MX11_sortsOf (cm τ κ Md) [(0, .ref (τ 0)), (1, .int set), (2, .int (spSortB σ set i)), (3, .int (nI i))] [] 4 Q) (n := cn σ 65) ?_ ?_ 0 (Nat.zero_le _)
  · refine x_iload_n dX11_sortsOf_4 rfl rfl ?_
    refine x_aload_n dX11_sortsOf_5 rfl rfl ?_
    refine x_getf dX11_sortsOf_6 lf_X11_31 (kc hi kf_0) kv_0_7 ?_
    refine x_cV0 dX11_sortsOf_9 lv_X11_100 (hD.lc 7 li_7) rfl rfl rfl (c_lsz_7 hD ?_)
    refine x_icmp_ge (tgt := 46) dX11_sortsOf_12 (by decide) (fun _ => ?_) (fun z => absurd (loopT rfl) z)
    refine x_iload_n dX11_sortsOf_46 rfl rfl ?_
    refine x_cS1 dX11_sortsOf_47 ls_X11_424 rfl  (c_J6_bitCount_0f7a4 ?_)
    exact x_ireturn dX11_sortsOf_50 rfl rfl (hq)
  · intro i hlt ih
    have es : spSortB σ set (i + 1) = if (set >>> (nI i &&& 31)) &&& 1 = 1 then spSortB σ set i ||| σ.2 63 i else spSortB σ set i := rfl
    refine x_iload_n dX11_sortsOf_4 rfl rfl ?_
    refine x_aload_n dX11_sortsOf_5 rfl rfl ?_
    refine x_getf dX11_sortsOf_6 lf_X11_31 (kc hi kf_0) kv_0_7 ?_
    refine x_cV0 dX11_sortsOf_9 lv_X11_100 (hD.lc 7 li_7) rfl rfl rfl (c_lsz_7 hD ?_)
    refine x_icmp_ge (tgt := 46) dX11_sortsOf_12 (by decide) (fun z => absurd z (loopF rfl hlt (by omega))) (fun _ => ?_)
    refine x_iload_n dX11_sortsOf_15 rfl rfl ?_
    refine x_iload_n dX11_sortsOf_16 rfl rfl ?_
    refine x_ishr dX11_sortsOf_17 ?_
    refine x_iconst (v := 1) dX11_sortsOf_18 (by decide) ?_
    refine x_iand dX11_sortsOf_19 ?_
    refine x_if_eq (tgt := 40) dX11_sortsOf_20 (by decide) (fun h20 => ?_) (fun h20 => ?_)
    · refine x_iinc (c := 1) dX11_sortsOf_40 rfl (by decide) ?_
      refine x_goto (tgt := 4) dX11_sortsOf_43 (by decide) ?_
      refine x_loc _ (?_ : lle _ _) ih
      refine ⟨rfl, rfl, ?_, ?_, trivial⟩
      · show some (Value.int _) = some (Value.int _)
        rw [es]
        first | rw [if_pos (and1_ne.mp h20)] | rw [if_neg (fun z => and1_ne.mpr z h20)]
      · show some (Value.int _) = some (Value.int (nI (i + 1)))
        rw [← nI_1]
    · refine x_iload_n dX11_sortsOf_23 rfl rfl ?_
      refine x_aload_n dX11_sortsOf_24 rfl rfl ?_
      refine x_getf dX11_sortsOf_25 lf_X11_31 (kc hi kf_0) kv_0_7 ?_
      refine x_iload_n dX11_sortsOf_28 rfl rfl ?_
      refine x_cV1 dX11_sortsOf_29 lv_X11_126 (hD.lc 7 li_7) rfl rfl rfl (c_lget (k := 7) hD li_7 hlt ?_)
      refine x_cast (q := (_, _, _)) dX11_sortsOf_32 (show vwCl[6]? = some _ from rfl) tb1028 (ob_7 hD hlt) ?_
      refine x_getf dX11_sortsOf_35 lf_X11_421 (ob_7 hD hlt) ov_7_1 ?_
      refine x_ior dX11_sortsOf_38 ?_
      refine x_istore_n dX11_sortsOf_39 rfl (by decide) ?_
      refine x_iinc (c := 1) dX11_sortsOf_40 rfl (by decide) ?_
      refine x_goto (tgt := 4) dX11_sortsOf_43 (by decide) ?_
      refine x_loc _ (?_ : lle _ _) ih
      refine ⟨rfl, rfl, ?_, ?_, trivial⟩
      · show some (Value.int _) = some (Value.int _)
        rw [es]
        first | rw [if_pos (and1_ne.mp h20)] | rw [if_neg (fun z => and1_ne.mpr z h20)]
      · show some (Value.int _) = some (Value.int (nI (i + 1)))
        rw [← nI_1]
theorem sh_bd : ∀ n, n ≤ 8 → (1 : Int32) <<< (nI n &&& 31) = nI (2 ^ n) := by decide +kernel
theorem c_X11_judge {set coin : Int32} (hW : Wld G τ ω ε σ κ Md) (hq : Q (some (.int (aJudge σ set coin))) (cm τ κ Md)) : CT G (d + 4) (0, 0) MX11_judge [.ref (τ 0), .int set, .int coin] (cm τ κ Md) Q := by
  have hW' := hW
  obtain ⟨hi, hc, hD, hK⟩ := hW
  obtain ⟨hl1, hl2⟩ := hc.b 65 (b := 8) (by decide)
  have hpw : 2 ^ cn σ 65 ≤ 2 ^ 8 := Nat.pow_le_pow_right (by decide) hl2
  have hset : (0 ≤ set ∧ set ≤ (1 : Int32) <<< (nI (cn σ 65) &&& 31) - 1) ↔ (0 ≤ set ∧ set < 1 <<< (σ.1 65 &&& 31)) := by
    rw [hl1, sh_bd _ hl2, le_p1 (by omega)]
  refine CT.of rfl (Nat.le_of_ble_eq_true rfl) ?_
  refine x_iload_n dX11_judge_0 rfl rfl ?_
  refine x_iconst (v := 0) dX11_judge_1 (by decide) ?_
  refine x_iconst (v := 1) dX11_judge_2 (by decide) ?_
  refine x_aload_n dX11_judge_3 rfl rfl ?_
  refine x_getf dX11_judge_4 lf_X11_31 (kc hi kf_0) kv_0_7 ?_
  refine x_cV0 dX11_judge_7 lv_X11_100 (hD.lc 7 li_7) rfl rfl rfl (c_lsz_7 hD ?_)
  refine x_ishl dX11_judge_10 ?_
  refine x_iconst (v := 1) dX11_judge_11 (by decide) ?_
  refine x_isub dX11_judge_12 ?_
  refine x_cS3 dX11_judge_13 ls_X11_92 rfl  (c_X11_isWithin ?_)
  refine x_if_eq_b (tgt := 26) dX11_judge_16 (by decide) (fun h16 => ?_) (fun h16 => ?_)
  · refine x_bipush (v := -2) dX11_judge_26 (by decide) ?_
    exact x_ireturn dX11_judge_28 rfl rfl (fan_f hq (fun z => by first | exact h16 (hset.mpr ⟨z.1, z.2.1⟩) | exact h23 z.2.2))
  · refine x_iload_n dX11_judge_19 rfl rfl ?_
    refine x_cS1 dX11_judge_20 ls_X11_406 rfl  (c_X11_isCoin ?_)
    refine x_if_ne_b (tgt := 29) dX11_judge_23 (by decide) (fun h23 => ?_) (fun h23 => ?_)
    · have h2 := fan_t hq ⟨(hset.mp h16).1, (hset.mp h16).2, h23⟩
      refine x_aload_n dX11_judge_29 rfl rfl ?_
      refine x_iload_n dX11_judge_30 rfl rfl ?_
      refine x_cV1 dX11_judge_31 lv_X11_409 (kc hi kf_0) rfl rfl rfl  (c_X11_priceOf hW' ?_)
      refine x_iload_n dX11_judge_34 rfl rfl ?_
      refine x_icmp_le (tgt := 42) dX11_judge_35 (by decide) (fun h35 => ?_) (fun h35 => ?_)
      · refine x_aload_n dX11_judge_42 rfl rfl ?_
        refine x_iload_n dX11_judge_43 rfl rfl ?_
        refine x_cV1 dX11_judge_44 lv_X11_412 (kc hi kf_0) rfl rfl rfl  (c_X11_sortsOf hW' ?_)
        exact x_ireturn dX11_judge_47 rfl rfl (by
first
| (rw [if_pos (Int32.not_le.mp h35)] at h2; exact h2)
| (rw [if_neg (Int32.not_lt.mpr h35)] at h2; exact h2))
      · refine x_iconst (v := -1) dX11_judge_38 (by decide) ?_
        refine x_goto (tgt := 47) dX11_judge_39 (by decide) ?_
        exact x_ireturn dX11_judge_47 rfl rfl (by
first
| (rw [if_pos (Int32.not_le.mp h35)] at h2; exact h2)
| (rw [if_neg (Int32.not_lt.mpr h35)] at h2; exact h2))
    · refine x_bipush (v := -2) dX11_judge_26 (by decide) ?_
      exact x_ireturn dX11_judge_28 rfl rfl (fan_f hq (fun z => by first | exact h16 (hset.mpr ⟨z.1, z.2.1⟩) | exact h23 z.2.2))
theorem c_X11_personsGone (hW : Wld G τ ω ε σ κ Md) (hq : Q (some (.int (spGone σ (cn σ 15)))) (cm τ κ Md)) : CT G (d + 5) (0, 0) MX11_personsGone [.ref (τ 0)] (cm τ κ Md) Q := by
  have hW' := hW
  obtain ⟨hi, hc, hD, hK⟩ := hW
  obtain ⟨hp1, hp2⟩ := hc.b 15 (b := 24) (by decide)
  refine CT.of rfl (Nat.le_of_ble_eq_true rfl) ?_
  refine x_iconst (v := 0) dX11_personsGone_0 (by decide) ?_
  refine x_istore_n dX11_personsGone_1 rfl (by decide) ?_
  refine x_iconst (v := 0) dX11_personsGone_2 (by decide) ?_
  refine x_istore_n dX11_personsGone_3 rfl (by decide) ?_
  refine x_loc [(0, .ref (τ 0)), (1, .int (spGone σ 0)), (2, .int (nI 0))] ⟨rfl, rfl, rfl, trivial⟩ ?_
  refine loop_up (P := fun i => XJ G (d + 5) (0, 0) MX11_personsGone (cm τ κ Md) [(0, .ref (τ 0)), (1, .int (spGone σ i)), (2, .int (nI i))] [] 4 Q) (n := cn σ 15) ?_ ?_ 0 (Nat.zero_le _)
  · refine x_iload_n dX11_personsGone_4 rfl rfl ?_
    refine x_aload_n dX11_personsGone_5 rfl rfl ?_
    refine x_getf dX11_personsGone_6 lf_X11_10 (kc hi kf_0) kv_0_1 ?_
    refine x_cV0 dX11_personsGone_9 lv_X11_100 (hD.lc 1 li_1) rfl rfl rfl (c_lsz_1 hD ?_)
    refine x_icmp_ge (tgt := 40) dX11_personsGone_12 (by decide) (fun _ => ?_) (fun z => absurd (loopT rfl) z)
    refine x_iload_n dX11_personsGone_40 rfl rfl ?_
    exact x_ireturn dX11_personsGone_41 rfl rfl (hq)
  · intro i hlt ih
    have es : spGone σ (i + 1) = cI (isG σ (nI i) (σ.1 1) (σ.1 1)) (spGone σ i + 1) (spGone σ i) := rfl
    refine x_iload_n dX11_personsGone_4 rfl rfl ?_
    refine x_aload_n dX11_personsGone_5 rfl rfl ?_
    refine x_getf dX11_personsGone_6 lf_X11_10 (kc hi kf_0) kv_0_1 ?_
    refine x_cV0 dX11_personsGone_9 lv_X11_100 (hD.lc 1 li_1) rfl rfl rfl (c_lsz_1 hD ?_)
    refine x_icmp_ge (tgt := 40) dX11_personsGone_12 (by decide) (fun z => absurd z (loopF rfl hlt (by omega))) (fun _ => ?_)
    refine x_aload_n dX11_personsGone_15 rfl rfl ?_
    refine x_iload_n dX11_personsGone_16 rfl rfl ?_
    refine x_aload_n dX11_personsGone_17 rfl rfl ?_
    refine x_getf dX11_personsGone_18 lf_X11_88 (kc hi kf_0) kv_0_0 ?_
    rw [hK.1]
    refine x_aload_n dX11_personsGone_21 rfl rfl ?_
    refine x_getf dX11_personsGone_22 lf_X11_88 (kc hi kf_0) kv_0_0 ?_
    rw [hK.1]
    refine x_cV3 dX11_personsGone_25 lv_X11_121 (kc hi kf_0) rfl rfl rfl  (c_X11_hasStoppedBy hW' ?_)
    refine x_if_eq_b (tgt := 34) dX11_personsGone_28 (by decide) (fun h28 => ?_) (fun h28 => ?_)
    · refine x_iinc (c := 1) dX11_personsGone_34 rfl (by decide) ?_
      refine x_goto (tgt := 4) dX11_personsGone_37 (by decide) ?_
      refine x_loc _ (?_ : lle _ _) ih
      refine ⟨rfl, ?_, ?_, trivial⟩
      · show some (Value.int _) = some (Value.int _)
        rw [es]
        first | rw [cI_f h28] | rw [cI_t h28]
      · show some (Value.int _) = some (Value.int (nI (i + 1)))
        rw [← nI_1]
    · refine x_iinc (c := 1) dX11_personsGone_31 rfl (by decide) ?_
      refine x_iinc (c := 1) dX11_personsGone_34 rfl (by decide) ?_
      refine x_goto (tgt := 4) dX11_personsGone_37 (by decide) ?_
      refine x_loc _ (?_ : lle _ _) ih
      refine ⟨rfl, ?_, ?_, trivial⟩
      · show some (Value.int _) = some (Value.int _)
        rw [es]
        first | rw [cI_f h28] | rw [cI_t h28]
      · show some (Value.int _) = some (Value.int (nI (i + 1)))
        rw [← nI_1]
theorem c_X11_share {s t b : Int32} (hq : Q (some (.int (if b = 0 then 0 else s * t / b))) M) : CT G d (0, 0) MX11_share [.int s, .int t, .int b] M Q := by
  refine CT.of rfl (Nat.le_of_ble_eq_true rfl) ?_
  refine x_iload_n dX11_share_0 rfl rfl ?_
  refine x_if_ne (tgt := 8) dX11_share_1 (by decide) (fun h1 => ?_) (fun h1 => ?_)
  · refine x_iload_n dX11_share_8 rfl rfl ?_
    refine x_iload_n dX11_share_9 rfl rfl ?_
    refine x_imul dX11_share_10 ?_
    refine x_iload_n dX11_share_11 rfl rfl ?_
    refine x_idiv dX11_share_12 h1 ?_
    exact x_ireturn dX11_share_13 rfl rfl (by first | (rw [if_pos h1] at hq; exact hq) | (rw [if_neg h1] at hq; exact hq))
  · refine x_iconst (v := 0) dX11_share_4 (by decide) ?_
    refine x_goto (tgt := 13) dX11_share_5 (by decide) ?_
    exact x_ireturn dX11_share_13 rfl rfl (by first | (rw [if_pos h1] at hq; exact hq) | (rw [if_neg h1] at hq; exact hq))
theorem c_X11_lean {sort q : Int32} (hW : Wld G τ ω ε σ κ Md) (hB : LnB σ) (hq : Q (some (.int (aLean σ sort q))) (cm τ κ Md)) : CT G (d + 5) (0, 0) MX11_lean [.ref (τ 0), .int sort, .int q] (cm τ κ Md) Q := by
  have hW' := hW
  obtain ⟨hi, hc, hD, hK⟩ := hW
  obtain ⟨hp1, hp2⟩ := hc.b 15 (b := 24) (by decide)
  obtain ⟨hl1, hl2⟩ := hc.b 16 (b := 200) (by decide)
  refine CT.of rfl (Nat.le_of_ble_eq_true rfl) ?_
  refine x_iload_n dX11_lean_0 rfl rfl ?_
  refine x_cS1 dX11_lean_1 ls_X11_115 rfl  (c_X11_isSort ?_)
  refine x_if_eq_b (tgt := 15) dX11_lean_4 (by decide) (fun h4 => ?_) (fun h4 => ?_)
  · refine x_ldcw dX11_lean_15 tb865 ?_
    exact x_ireturn dX11_lean_18 rfl rfl (fan_f hq (fun z => by first | exact h4 z.1 | exact h12 z.2))
  · refine x_aload_n dX11_lean_7 rfl rfl ?_
    refine x_iload_n dX11_lean_8 rfl rfl ?_
    refine x_cV1 dX11_lean_9 lv_X11_158 (kc hi kf_0) rfl rfl rfl  (c_X11_isKnownDay hW' ?_)
    refine x_if_ne_b (tgt := 19) dX11_lean_12 (by decide) (fun h12 => ?_) (fun h12 => ?_)
    · refine x_iconst (v := 0) dX11_lean_19 (by decide) ?_
      refine x_istore_n dX11_lean_20 rfl (by decide) ?_
      refine x_iconst (v := 0) dX11_lean_21 (by decide) ?_
      refine x_istore dX11_lean_22 (by decide) ?_
      refine x_iconst (v := 0) dX11_lean_24 (by decide) ?_
      refine x_istore dX11_lean_25 (by decide) ?_
      refine x_iconst (v := 0) dX11_lean_27 (by decide) ?_
      refine x_istore dX11_lean_28 (by decide) ?_
      refine x_iconst (v := 0) dX11_lean_30 (by decide) ?_
      refine x_istore dX11_lean_31 (by decide) ?_
      have h2 := fan_t hq ⟨h4, h12⟩
      refine x_loc [(0, .ref (τ 0)), (1, .int sort), (2, .int q), (3, .int (spLean σ sort q 0).1.1), (4, .int (spLean σ sort q 0).1.2), (5, .int (spLean σ sort q 0).2.1), (6, .int (spLean σ sort q 0).2.2), (7, .int (nI 0))] ⟨rfl, rfl, rfl, rfl, rfl, rfl, rfl, rfl, trivial⟩ ?_
      refine loop_up (P := fun i => XJ G (d + 5) (0, 0) MX11_lean (cm τ κ Md) [(0, .ref (τ 0)), (1, .int sort), (2, .int q), (3, .int (spLean σ sort q i).1.1), (4, .int (spLean σ sort q i).1.2), (5, .int (spLean σ sort q i).2.1), (6, .int (spLean σ sort q i).2.2), (7, .int (nI i))] [] 33 Q) (n := cn σ 15) ?_ ?_ 0 (Nat.zero_le _)
      · refine x_iload dX11_lean_33 rfl ?_
        refine x_aload_n dX11_lean_35 rfl rfl ?_
        refine x_getf dX11_lean_36 lf_X11_10 (kc hi kf_0) kv_0_1 ?_
        refine x_cV0 dX11_lean_39 lv_X11_100 (hD.lc 1 li_1) rfl rfl rfl (c_lsz_1 hD ?_)
        refine x_icmp_ge (tgt := 132) dX11_lean_42 (by decide) (fun _ => ?_) (fun z => absurd (loopT rfl) z)
        refine x_iload_n dX11_lean_132 rfl rfl ?_
        refine x_if_eq (tgt := 141) dX11_lean_133 (by decide) (fun h133 => ?_) (fun h133 => ?_)
        · refine x_ldcw dX11_lean_141 tb865 ?_
          exact x_ireturn dX11_lean_144 rfl rfl (by rw [if_pos (by first | exact Or.inl h133 | exact Or.inr h138)] at h2; exact h2)
        · refine x_iload dX11_lean_136 rfl ?_
          refine x_if_ne (tgt := 145) dX11_lean_138 (by decide) (fun h138 => ?_) (fun h138 => ?_)
          · refine x_iload dX11_lean_145 rfl ?_
            refine x_sipush (v := 1000) dX11_lean_147 (by decide) ?_
            refine x_iload_n dX11_lean_150 rfl rfl ?_
            refine x_cS3 dX11_lean_151 ls_X11_336 rfl  (c_X11_share ?_)
            refine x_iload dX11_lean_154 rfl ?_
            refine x_sipush (v := 1000) dX11_lean_156 (by decide) ?_
            refine x_iload dX11_lean_159 rfl ?_
            refine x_cS3 dX11_lean_161 ls_X11_336 rfl  (c_X11_share ?_)
            refine x_isub dX11_lean_164 ?_
            exact x_ireturn dX11_lean_165 rfl rfl (by
rw [if_neg (fun z => z.elim h133 h138)] at h2
rw [if_neg h133, if_neg h138, Int32.mul_comm _ 1000, Int32.mul_comm _ 1000]
exact h2)
          · refine x_ldcw dX11_lean_141 tb865 ?_
            exact x_ireturn dX11_lean_144 rfl rfl (by rw [if_pos (by first | exact Or.inl h133 | exact Or.inr h138)] at h2; exact h2)
      · intro i hlt ih
        refine x_iload dX11_lean_33 rfl ?_
        refine x_aload_n dX11_lean_35 rfl rfl ?_
        refine x_getf dX11_lean_36 lf_X11_10 (kc hi kf_0) kv_0_1 ?_
        refine x_cV0 dX11_lean_39 lv_X11_100 (hD.lc 1 li_1) rfl rfl rfl (c_lsz_1 hD ?_)
        refine x_icmp_ge (tgt := 132) dX11_lean_42 (by decide) (fun z => absurd z (loopF rfl hlt (by omega))) (fun _ => ?_)
        refine x_aload_n dX11_lean_45 rfl rfl ?_
        refine x_iload dX11_lean_46 rfl ?_
        refine x_iload_n dX11_lean_48 rfl rfl ?_
        have es : spLean σ sort q (i + 1) = if spLast σ (nI i) q (cn σ 16) = -1 then spLean σ sort q i else cI (isG σ (nI i) q q) (((spLean σ sort q i).1.1 + 1, (spLean σ sort q i).1.2 + (if σ.2 10 (spLast σ (nI i) q (cn σ 16)).toNatClampNeg = sort then 1 else 0)), (spLean σ sort q i).2) ((spLean σ sort q i).1, ((spLean σ sort q i).2.1 + 1, (spLean σ sort q i).2.2 + (if σ.2 10 (spLast σ (nI i) q (cn σ 16)).toNatClampNeg = sort then 1 else 0))) := rfl
        rcases spLast_cases (σ := σ) (p := nI i) (q := q) (cn σ 16) with hw | ⟨j, hj, hw⟩
        · rw [if_pos hw] at es
          refine x_cV2 dX11_lean_49 lv_X11_367 (kc hi kf_0) rfl rfl rfl  (c_X11_lastOf hW' hB ?_)
          refine x_istore dX11_lean_52 (by decide) ?_
          refine x_aload_n dX11_lean_54 rfl rfl ?_
          refine x_iload dX11_lean_55 rfl ?_
          refine x_cV1 dX11_lean_57 lv_X11_136 (kc hi kf_0) rfl rfl rfl  (c_X11_isLine hW' ?_)
          refine x_if_ne_b (tgt := 66) dX11_lean_60 (by decide) (fun z => absurd z (fun z => by rw [hw] at z; exact absurd z.1 (by decide))) (fun _ => ?_)
          refine x_goto (tgt := 126) dX11_lean_63 (by decide) ?_
          refine x_iinc (c := 1) dX11_lean_126 rfl (by decide) ?_
          refine x_goto (tgt := 33) dX11_lean_129 (by decide) ?_
          refine x_loc _ (?_ : lle _ _) ih
          rw [es]
          refine ⟨rfl, rfl, rfl, rfl, rfl, rfl, rfl, ?_, trivial⟩
          show some (Value.int (nI i + 1)) = some (Value.int (nI (i + 1)))
          rw [nI_1]
        · have hne : ¬ spLast σ (nI i) q (cn σ 16) = -1 := by rw [hw]; exact nI_n1 (by omega)
          have hcl : (nI j).toNatClampNeg = j := nI_clamp (by omega)
          rw [if_neg hne, hw, hcl] at es
          refine x_cV2 dX11_lean_49 lv_X11_367 (kc hi kf_0) rfl rfl rfl  (c_X11_lastOf hW' hB ?_)
          rw [hw]
          refine x_istore dX11_lean_52 (by decide) ?_
          refine x_aload_n dX11_lean_54 rfl rfl ?_
          refine x_iload dX11_lean_55 rfl ?_
          refine x_cV1 dX11_lean_57 lv_X11_136 (kc hi kf_0) rfl rfl rfl  (c_X11_isLine hW' ?_)
          refine x_if_ne_b (tgt := 66) dX11_lean_60 (by decide) (fun _ => ?_) (fun z => absurd ⟨nI_pos' (by omega), by rw [hl1]; exact nI_lt hj (by omega)⟩ z)
          refine x_aload_n dX11_lean_66 rfl rfl ?_
          refine x_getf dX11_lean_67 lf_X11_16 (kc hi kf_0) kv_0_2 ?_
          refine x_iload dX11_lean_70 rfl ?_
          refine x_cV1 dX11_lean_72 lv_X11_126 (hD.lc 2 li_2) rfl rfl rfl (c_lget (k := 2) hD li_2 hj ?_)
          refine x_cast (q := (_, _, _)) dX11_lean_75 (show vwCl[2]? = some _ from rfl) tb367 (ob_2 hD hj) ?_
          refine x_getf dX11_lean_78 lf_X11_247 (ob_2 hD hj) ov_2_2 ?_
          refine x_iload_n dX11_lean_81 rfl rfl ?_
          refine x_icmp_ne (tgt := 89) dX11_lean_82 (by decide) (fun h82 => ?_) (fun h82 => ?_)
          · refine x_iconst (v := 0) dX11_lean_89 (by decide) ?_
            refine x_istore dX11_lean_90 (by decide) ?_
            refine x_aload_n dX11_lean_92 rfl rfl ?_
            refine x_iload dX11_lean_93 rfl ?_
            refine x_iload_n dX11_lean_95 rfl rfl ?_
            refine x_iload_n dX11_lean_96 rfl rfl ?_
            refine x_cV3 dX11_lean_97 lv_X11_121 (kc hi kf_0) rfl rfl rfl  (c_X11_hasStoppedBy hW' ?_)
            refine x_if_eq_b (tgt := 116) dX11_lean_100 (by decide) (fun h100 => ?_) (fun h100 => ?_)
            · refine x_iinc (c := 1) dX11_lean_116 rfl (by decide) ?_
              refine x_iload dX11_lean_119 rfl ?_
              refine x_iload dX11_lean_121 rfl ?_
              refine x_iadd dX11_lean_123 ?_
              refine x_istore dX11_lean_124 (by decide) ?_
              refine x_iinc (c := 1) dX11_lean_126 rfl (by decide) ?_
              refine x_goto (tgt := 33) dX11_lean_129 (by decide) ?_
              refine x_loc _ (?_ : lle _ _) ih
              rw [es]
              first
              | rw [cI_f h100]
              | rw [cI_t h100]
              first
              | rw [if_neg h82]
              | rw [if_pos h82]
              refine ⟨rfl, rfl, rfl, rfl, rfl, rfl, rfl, ?_, trivial⟩
              show some (Value.int (nI i + 1)) = some (Value.int (nI (i + 1)))
              rw [nI_1]
            · refine x_iinc (c := 1) dX11_lean_103 rfl (by decide) ?_
              refine x_iload dX11_lean_106 rfl ?_
              refine x_iload dX11_lean_108 rfl ?_
              refine x_iadd dX11_lean_110 ?_
              refine x_istore dX11_lean_111 (by decide) ?_
              refine x_goto (tgt := 126) dX11_lean_113 (by decide) ?_
              refine x_iinc (c := 1) dX11_lean_126 rfl (by decide) ?_
              refine x_goto (tgt := 33) dX11_lean_129 (by decide) ?_
              refine x_loc _ (?_ : lle _ _) ih
              rw [es]
              first
              | rw [cI_f h100]
              | rw [cI_t h100]
              first
              | rw [if_neg h82]
              | rw [if_pos h82]
              refine ⟨rfl, rfl, rfl, rfl, rfl, rfl, rfl, ?_, trivial⟩
              show some (Value.int (nI i + 1)) = some (Value.int (nI (i + 1)))
              rw [nI_1]
          · refine x_iconst (v := 1) dX11_lean_85 (by decide) ?_
            refine x_goto (tgt := 90) dX11_lean_86 (by decide) ?_
            refine x_istore dX11_lean_90 (by decide) ?_
            refine x_aload_n dX11_lean_92 rfl rfl ?_
            refine x_iload dX11_lean_93 rfl ?_
            refine x_iload_n dX11_lean_95 rfl rfl ?_
            refine x_iload_n dX11_lean_96 rfl rfl ?_
            refine x_cV3 dX11_lean_97 lv_X11_121 (kc hi kf_0) rfl rfl rfl  (c_X11_hasStoppedBy hW' ?_)
            refine x_if_eq_b (tgt := 116) dX11_lean_100 (by decide) (fun h100 => ?_) (fun h100 => ?_)
            · refine x_iinc (c := 1) dX11_lean_116 rfl (by decide) ?_
              refine x_iload dX11_lean_119 rfl ?_
              refine x_iload dX11_lean_121 rfl ?_
              refine x_iadd dX11_lean_123 ?_
              refine x_istore dX11_lean_124 (by decide) ?_
              refine x_iinc (c := 1) dX11_lean_126 rfl (by decide) ?_
              refine x_goto (tgt := 33) dX11_lean_129 (by decide) ?_
              refine x_loc _ (?_ : lle _ _) ih
              rw [es]
              first
              | rw [cI_f h100]
              | rw [cI_t h100]
              first
              | rw [if_neg h82]
              | rw [if_pos h82]
              refine ⟨rfl, rfl, rfl, rfl, rfl, rfl, rfl, ?_, trivial⟩
              show some (Value.int (nI i + 1)) = some (Value.int (nI (i + 1)))
              rw [nI_1]
            · refine x_iinc (c := 1) dX11_lean_103 rfl (by decide) ?_
              refine x_iload dX11_lean_106 rfl ?_
              refine x_iload dX11_lean_108 rfl ?_
              refine x_iadd dX11_lean_110 ?_
              refine x_istore dX11_lean_111 (by decide) ?_
              refine x_goto (tgt := 126) dX11_lean_113 (by decide) ?_
              refine x_iinc (c := 1) dX11_lean_126 rfl (by decide) ?_
              refine x_goto (tgt := 33) dX11_lean_129 (by decide) ?_
              refine x_loc _ (?_ : lle _ _) ih
              rw [es]
              first
              | rw [cI_f h100]
              | rw [cI_t h100]
              first
              | rw [if_neg h82]
              | rw [if_pos h82]
              refine ⟨rfl, rfl, rfl, rfl, rfl, rfl, rfl, ?_, trivial⟩
              show some (Value.int (nI i + 1)) = some (Value.int (nI (i + 1)))
              rw [nI_1]
    · refine x_ldcw dX11_lean_15 tb865 ?_
      exact x_ireturn dX11_lean_18 rfl rfl (fan_f hq (fun z => by first | exact h4 z.1 | exact h12 z.2))
end CLC
