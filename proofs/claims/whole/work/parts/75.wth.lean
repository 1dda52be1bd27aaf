/-! the class, 23: what a rule is worth -/
section WTH
variable {G : Gam} {d : Nat} {τ : Nat → Nat} {ω : Nat → Nat → Nat} {ε : Nat → Nat} {σ κ : MS} {Md : Mem} {M : Mem} {Q : Option Value → Mem → Prop} {k : Nat}
theorem neg_rng {c : Int32} (h0 : -200 ≤ c) (hp : ¬ 0 ≤ c) : 0 ≤ -c ∧ -c ≤ 255 := by
  have e200 : (-200 : Int32).toInt = -200 := rfl
  have e0 : (0 : Int32).toInt = 0 := rfl
  have e255 : (255 : Int32).toInt = 255 := rfl
  rw [Int32.le_iff_toInt_le, e200] at h0
  rw [Int32.le_iff_toInt_le, e0] at hp
  rw [Int32.le_iff_toInt_le, Int32.le_iff_toInt_le, e0, e255, Int32.toInt_neg, bm32 (by omega)]
  omega
theorem c_X6_worth {lb : Int32} {r : Nat} {L : Int32 → Int32} (hi : adOK τ) (hz : ZCom G) (hlt : Lit G RX6 47 pLetters) (hlb : Lit G RX6 27 pLabels) (hD : Dyn G τ ω ε σ Md) (hr : r < cn σ 25) (hL : LtK κ L) (hn : (codS σ r).length ≤ 160) (hco : ∀ c ∈ codS σ r, -200 ≤ c) (hq : ∀ κ', KN κ κ' → Q (some (.int ((wRO L lb (codS σ r) false []).getD 0))) (cm τ κ' Md)) : CT G (d + 5) (0, 0) MX6_worth [.ref (ω 4 r), .int lb, .ref (τ 13), .ref (τ 14)] (cm τ κ Md) Q := by
  obtain ⟨tx, sa, hlR, hlS'⟩ := hlb
  obtain ⟨va, hlO, -⟩ := id hlS'
  have hcod : ∀ κ, cm τ κ Md (ω 8 r) = some (100, (codS σ r).length, fun j => .int ((codS σ r).getD j 0)) := fun κ => kd hD.1 (hD.2.2.2.2.1 r hr)
  generalize hcs : codS σ r = cs at *
  have H : ∀ (t : List Int32) (i : Nat) (k : Bool) (st : List Int32) (κ2 : MS), cs.drop i = t → i ≤ cs.length → st.length ≤ i → KN κ κ2 → StK κ2 st → (∀ κ', KN κ κ' → Q (some (.int ((wRO L lb t k st).getD 0))) (cm τ κ' Md)) → XJ G (d + 5) (0, 0) MX6_worth (cm τ κ2 Md) [(0, .ref (ω 4 r)), (1, .int lb), (2, .ref (τ 13)), (3, .ref (τ 14)), (4, .int (if k = true then 1 else 0)), (5, .ref (ω 8 r)), (6, .int (nI cs.length)), (7, .int (nI i))] [] 21 Q := by
    intro t
    induction t with
    | nil =>
      intro i k st κ2 hdr hi2 hsl hk2 hS2 hq2
      have hin : i = cs.length := by
        have := List.drop_eq_nil_iff.mp hdr
        omega
      subst hin
      refine x_iload dX6_worth_21 rfl ?_
      refine x_iload dX6_worth_23 rfl ?_
      refine x_icmp_ge (tgt := 133) dX6_worth_25 (by decide) (fun _ => ?_) (fun z => absurd (Int32.le_refl _) z)
      refine x_iconst (v := 0) dX6_worth_133 (by decide) ?_
      exact x_ireturn dX6_worth_134 rfl rfl (hq2 κ2 hk2)
    | cons c t ih =>
      intro i k st κ2 hdr hi2 hsl hk2 hS2 hq2
      have hlt2 : i < cs.length := by
        rcases Nat.lt_or_ge i cs.length with h | h
        · exact h
        · rw [List.drop_eq_nil_iff.mpr h] at hdr; cases hdr
      have hci : cs.getD i 0 = c := by
        rw [List.drop_eq_getElem_cons hlt2] at hdr
        rw [List.getD_eq_getElem?_getD, List.getElem?_eq_getElem hlt2]
        exact (List.cons.inj hdr).1
      have hdr2 : cs.drop (i + 1) = t := by
        rw [List.drop_eq_getElem_cons hlt2] at hdr
        exact (List.cons.inj hdr).2
      have hcm : c ∈ cs := by
        have : c ∈ cs.drop i := by rw [hdr]; exact List.mem_cons_self
        exact List.mem_of_mem_drop this
      have hc200 := hco c hcm
      have hnx : ∀ (k' : Bool) (st' : List Int32) (κ3 : MS), StK κ3 st' → st'.length ≤ i + 1 → KN κ κ3 → (∀ κ', KN κ κ' → Q (some (.int ((wRO L lb t k' st').getD 0))) (cm τ κ' Md)) → XJ G (d + 5) (0, 0) MX6_worth (cm τ κ3 Md) [(0, .ref (ω 4 r)), (1, .int lb), (2, .ref (τ 13)), (3, .ref (τ 14)), (4, .int (if k' = true then 1 else 0)), (5, .ref (ω 8 r)), (6, .int (nI cs.length)), (7, .int (nI i)), (8, .int c)] [] 127 Q := by
        intro k' st' κ3 hS3 hl3 hk3 hq3
        refine x_iinc (c := 1) dX6_worth_127 rfl (by decide) ?_
        refine x_goto (tgt := 21) dX6_worth_130 (by decide) ?_
        refine x_loc _ (?_ : lle _ _) (ih (i + 1) k' st' κ3 hdr2 (by omega) hl3 hk3 hS3 hq3)
        refine ⟨rfl, rfl, rfl, rfl, rfl, rfl, rfl, ?_, trivial⟩
        show some (Value.int (nI i + 1)) = some (Value.int (nI (i + 1)))
        rw [nI_1]
      have h69 : ¬ isLab (-c) = true → XJ G (d + 5) (0, 0) MX6_worth (cm τ κ2 Md) [(0, .ref (ω 4 r)), (1, .int lb), (2, .ref (τ 13)), (3, .ref (τ 14)), (4, .int (if k = true then 1 else 0)), (5, .ref (ω 8 r)), (6, .int (nI cs.length)), (7, .int (nI i)), (8, .int c)] [] 69 Q := by
        intro hnl
        cases k with
        | false =>
          have hw : wRO L lb (c :: t) false st = wRO L lb t false st := by
            rw [wRO, if_neg hnl, if_neg (fun y => absurd y.1 (by decide)), if_neg (fun y => absurd y.1 (by decide)), if_neg (by decide)]
          rw [hw] at hq2
          refine x_iload dX6_worth_69 rfl ?_
          refine x_if_eq (tgt := 86) dX6_worth_71 (by decide) (fun _ => ?_) (fun z => absurd (by decide) z)
          refine x_iload dX6_worth_86 rfl ?_
          refine x_if_eq (tgt := 115) dX6_worth_88 (by decide) (fun _ => ?_) (fun z => absurd (by decide) z)
          refine x_iload dX6_worth_115 rfl ?_
          refine x_if_eq (tgt := 127) dX6_worth_117 (by decide) (fun _ => ?_) (fun z => absurd (by decide) z)
          refine x_loc _ (?_ : lle _ _) (hnx false st κ2 hS2 (by omega) hk2 hq2)
          exact ⟨rfl, rfl, rfl, rfl, rfl, rfl, rfl, rfl, rfl, trivial⟩
        | true =>
          by_cases h59 : c = -59
          · have hw : wRO L lb (c :: t) true st = some (st.headD 0) := by
              rw [wRO, if_neg hnl, if_pos ⟨rfl, h59⟩]
            rw [hw] at hq2
            refine x_iload dX6_worth_69 rfl ?_
            refine x_if_eq (tgt := 86) dX6_worth_71 (by decide) (fun z => absurd z (by decide)) (fun _ => ?_)
            refine x_iload dX6_worth_74 rfl ?_
            refine x_bipush (v := -59) dX6_worth_76 (by decide) ?_
            refine x_icmp_ne (tgt := 86) dX6_worth_78 (by decide) (fun z => absurd h59 z) (fun _ => ?_)
            refine x_aload_n dX6_worth_81 rfl rfl ?_
            refine x_cV0 dX6_worth_82 lv_X6_35 (kc hi kf_14) rfl rfl rfl  (c_X3_pop' hi hS2 (by omega) ?_)
            intro κ3 hk3 hS3
            exact x_ireturn dX6_worth_85 rfl rfl (hq2 κ3 (hk2.tr hk3))
          · by_cases h63 : c = -63
            · have hw : wRO L lb (c :: t) true st = wRO L lb t (decide (¬ st.headD 0 = 0)) st.tail := by
                rw [wRO, if_neg hnl, if_neg (fun y => h59 y.2), if_pos ⟨rfl, h63⟩]
              rw [hw] at hq2
              refine x_iload dX6_worth_69 rfl ?_
              refine x_if_eq (tgt := 86) dX6_worth_71 (by decide) (fun z => absurd z (by decide)) (fun _ => ?_)
              refine x_iload dX6_worth_74 rfl ?_
              refine x_bipush (v := -59) dX6_worth_76 (by decide) ?_
              refine x_icmp_ne (tgt := 86) dX6_worth_78 (by decide) (fun _ => ?_) (fun z => absurd z h59)
              refine x_iload dX6_worth_86 rfl ?_
              refine x_if_eq (tgt := 115) dX6_worth_88 (by decide) (fun z => absurd z (by decide)) (fun _ => ?_)
              refine x_iload dX6_worth_91 rfl ?_
              refine x_bipush (v := -63) dX6_worth_93 (by decide) ?_
              refine x_icmp_ne (tgt := 115) dX6_worth_95 (by decide) (fun z => absurd h63 z) (fun _ => ?_)
              refine x_aload_n dX6_worth_98 rfl rfl ?_
              refine x_cV0 dX6_worth_99 lv_X6_35 (kc hi kf_14) rfl rfl rfl  (c_X3_pop' hi hS2 (by omega) ?_)
              intro κ3 hk3 hS3
              refine x_if_eq (tgt := 109) dX6_worth_102 (by decide) (fun h102 => ?_) (fun h102 => ?_)
              · refine x_iconst (v := 0) dX6_worth_109 (by decide) ?_
                refine x_istore dX6_worth_110 (by decide) ?_
                refine x_goto (tgt := 127) dX6_worth_112 (by decide) ?_
                first
                | (have hz2 : ¬ st.headD 0 = 0 := h102
                   rw [decide_eq_true hz2] at hq2
                   refine x_loc _ (?_ : lle _ _) (hnx true st.tail κ3 hS3 (by rw [List.length_tail]; omega) (hk2.tr hk3) hq2)
                   exact ⟨rfl, rfl, rfl, rfl, rfl, rfl, rfl, rfl, rfl, trivial⟩)
                | (have hz2 : st.headD 0 = 0 := h102
                   rw [decide_eq_false (fun y => y hz2)] at hq2
                   refine x_loc _ (?_ : lle _ _) (hnx false st.tail κ3 hS3 (by rw [List.length_tail]; omega) (hk2.tr hk3) hq2)
                   exact ⟨rfl, rfl, rfl, rfl, rfl, rfl, rfl, rfl, rfl, trivial⟩)
              · refine x_iconst (v := 1) dX6_worth_105 (by decide) ?_
                refine x_goto (tgt := 110) dX6_worth_106 (by decide) ?_
                refine x_istore dX6_worth_110 (by decide) ?_
                refine x_goto (tgt := 127) dX6_worth_112 (by decide) ?_
                first
                | (have hz2 : ¬ st.headD 0 = 0 := h102
                   rw [decide_eq_true hz2] at hq2
                   refine x_loc _ (?_ : lle _ _) (hnx true st.tail κ3 hS3 (by rw [List.length_tail]; omega) (hk2.tr hk3) hq2)
                   exact ⟨rfl, rfl, rfl, rfl, rfl, rfl, rfl, rfl, rfl, trivial⟩)
                | (have hz2 : st.headD 0 = 0 := h102
                   rw [decide_eq_false (fun y => y hz2)] at hq2
                   refine x_loc _ (?_ : lle _ _) (hnx false st.tail κ3 hS3 (by rw [List.length_tail]; omega) (hk2.tr hk3) hq2)
                   exact ⟨rfl, rfl, rfl, rfl, rfl, rfl, rfl, rfl, rfl, trivial⟩)
            · have hw : wRO L lb (c :: t) true st = wRO L lb t true (stp L c st) := by
                rw [wRO, if_neg hnl, if_neg (fun y => h59 y.2), if_neg (fun y => h63 y.2), if_pos rfl]
              have hle : (stp L c st).length ≤ i + 1 := by
                have : ∀ st : List Int32, (stp L c st).length ≤ st.length + 1 := by
                  intro st
                  unfold stp
                  split
                  · rw [List.length_cons]; omega
                  · split
                    · rw [List.length_cons]; omega
                    · split
                      · cases st with
                        | nil => exact Nat.le_refl _
                        | cons a b => show b.length + 1 ≤ _; rw [List.length_cons]; omega
                      · rcases st with _ | ⟨a, _ | ⟨b, e⟩⟩
                        · exact Nat.le_refl _
                        · show 1 ≤ _; omega
                        · show e.length + 1 ≤ _; rw [List.length_cons, List.length_cons]; omega
                have := this st
                omega
              rw [hw] at hq2
              refine x_iload dX6_worth_69 rfl ?_
              refine x_if_eq (tgt := 86) dX6_worth_71 (by decide) (fun z => absurd z (by decide)) (fun _ => ?_)
              refine x_iload dX6_worth_74 rfl ?_
              refine x_bipush (v := -59) dX6_worth_76 (by decide) ?_
              refine x_icmp_ne (tgt := 86) dX6_worth_78 (by decide) (fun _ => ?_) (fun z => absurd z h59)
              refine x_iload dX6_worth_86 rfl ?_
              refine x_if_eq (tgt := 115) dX6_worth_88 (by decide) (fun z => absurd z (by decide)) (fun _ => ?_)
              refine x_iload dX6_worth_91 rfl ?_
              refine x_bipush (v := -63) dX6_worth_93 (by decide) ?_
              refine x_icmp_ne (tgt := 115) dX6_worth_95 (by decide) (fun _ => ?_) (fun z => absurd z h63)
              refine x_iload dX6_worth_115 rfl ?_
              refine x_if_eq (tgt := 127) dX6_worth_117 (by decide) (fun z => absurd z (by decide)) (fun _ => ?_)
              refine x_iload dX6_worth_120 rfl ?_
              refine x_aload_n dX6_worth_122 rfl rfl ?_
              refine x_aload_n dX6_worth_123 rfl rfl ?_
              refine x_cS3 dX6_worth_124 ls_X6_39 rfl  (c_X6_work (L := L) hi hz hlt (LtK_KN hk2 hL) hS2 (by omega) hc200 ?_)
              intro κ3 hk3 hS3
              refine x_loc _ (?_ : lle _ _) (hnx true _ κ3 hS3 hle (hk2.tr hk3) hq2)
              exact ⟨rfl, rfl, rfl, rfl, rfl, rfl, rfl, rfl, rfl, trivial⟩
      by_cases hp : 0 ≤ c
      · have hnl : ¬ isLab (-c) = true := fun y => by
          have h1 := lab_mem y
          have e : ∀ x : Int32, -c = x → c = -x := fun x y => by rw [← y, Int32.neg_neg]
          rcases h1 with y | y | y
          · rw [e _ y] at hp; revert hp; decide
          · rw [e _ y] at hp; revert hp; decide
          · rw [e _ y] at hp; revert hp; decide
        refine x_iload dX6_worth_21 rfl ?_
        refine x_iload dX6_worth_23 rfl ?_
        refine x_icmp_ge (tgt := 133) dX6_worth_25 (by decide) (fun z => absurd z (Int32.not_le.mpr (nI_lt hlt2 (by omega)))) (fun _ => ?_)
        refine x_aload dX6_worth_28 rfl ?_
        refine x_iload dX6_worth_30 rfl ?_
        refine x_iaload dX6_worth_32 (hcod κ2) (vp_in_nI hlt2 (by omega)) (show Value.int (cs.getD (nI i).toNatClampNeg 0) = Value.int c by rw [nI_clamp (by omega), hci]) ?_
        refine x_istore dX6_worth_33 (by decide) ?_
        refine x_iload dX6_worth_35 rfl ?_
        refine x_if_ge (tgt := 69) dX6_worth_37 (by decide) (fun _ => ?_) (fun z => absurd hp z)
        refine x_loc _ (?_ : lle _ _) (h69 hnl)
        exact ⟨rfl, rfl, rfl, rfl, rfl, rfl, rfl, rfl, rfl, trivial⟩
      · obtain ⟨r1, r2⟩ := neg_rng hc200 hp
        have hch := chr_of r1 r2
        by_cases hlab : isLab (-c) = true
        · have hw : wRO L lb (c :: t) k st = wRO L lb t (decide (c = -lb)) st := by
            rw [wRO, if_pos hlab]
          rw [hw] at hq2
          refine x_iload dX6_worth_21 rfl ?_
          refine x_iload dX6_worth_23 rfl ?_
          refine x_icmp_ge (tgt := 133) dX6_worth_25 (by decide) (fun z => absurd z (Int32.not_le.mpr (nI_lt hlt2 (by omega)))) (fun _ => ?_)
          refine x_aload dX6_worth_28 rfl ?_
          refine x_iload dX6_worth_30 rfl ?_
          refine x_iaload dX6_worth_32 (hcod κ2) (vp_in_nI hlt2 (by omega)) (show Value.int (cs.getD (nI i).toNatClampNeg 0) = Value.int c by rw [nI_clamp (by omega), hci]) ?_
          refine x_istore dX6_worth_33 (by decide) ?_
          refine x_iload dX6_worth_35 rfl ?_
          refine x_if_ge (tgt := 69) dX6_worth_37 (by decide) (fun z => absurd z hp) (fun _ => ?_)
          refine x_ldcS dX6_worth_40 hlR ?_
          refine x_iload dX6_worth_42 rfl ?_
          refine x_ineg dX6_worth_44 ?_
          refine x_i2c dX6_worth_45 ?_
          rw [hch]
          refine x_oV1 dX6_worth_46 lv_X6_29 hlO rfl rfl  (c_J0_indexOf hz (by decide) lb_lab hlS' ?_)
          refine x_if_lt (tgt := 69) dX6_worth_49 (by decide) (fun z => absurd z (Int32.not_lt.mpr (sx_lab_t hlab))) (fun _ => ?_)
          refine x_iload dX6_worth_52 rfl ?_
          refine x_iload_n dX6_worth_54 rfl rfl ?_
          refine x_ineg dX6_worth_55 ?_
          refine x_icmp_ne (tgt := 63) dX6_worth_56 (by decide) (fun h56 => ?_) (fun h56 => ?_)
          · refine x_iconst (v := 0) dX6_worth_63 (by decide) ?_
            refine x_istore dX6_worth_64 (by decide) ?_
            refine x_goto (tgt := 127) dX6_worth_66 (by decide) ?_
            first
            | (have hz2 : c = -lb := h56
               rw [decide_eq_true hz2] at hq2
               refine x_loc _ (?_ : lle _ _) (hnx true st κ2 hS2 (by omega) hk2 hq2)
               exact ⟨rfl, rfl, rfl, rfl, rfl, rfl, rfl, rfl, rfl, trivial⟩)
            | (have hz2 : ¬ c = -lb := h56
               rw [decide_eq_false hz2] at hq2
               refine x_loc _ (?_ : lle _ _) (hnx false st κ2 hS2 (by omega) hk2 hq2)
               exact ⟨rfl, rfl, rfl, rfl, rfl, rfl, rfl, rfl, rfl, trivial⟩)
          · refine x_iconst (v := 1) dX6_worth_59 (by decide) ?_
            refine x_goto (tgt := 64) dX6_worth_60 (by decide) ?_
            refine x_istore dX6_worth_64 (by decide) ?_
            refine x_goto (tgt := 127) dX6_worth_66 (by decide) ?_
            first
            | (have hz2 : c = -lb := h56
               rw [decide_eq_true hz2] at hq2
               refine x_loc _ (?_ : lle _ _) (hnx true st κ2 hS2 (by omega) hk2 hq2)
               exact ⟨rfl, rfl, rfl, rfl, rfl, rfl, rfl, rfl, rfl, trivial⟩)
            | (have hz2 : ¬ c = -lb := h56
               rw [decide_eq_false hz2] at hq2
               refine x_loc _ (?_ : lle _ _) (hnx false st κ2 hS2 (by omega) hk2 hq2)
               exact ⟨rfl, rfl, rfl, rfl, rfl, rfl, rfl, rfl, rfl, trivial⟩)
        · refine x_iload dX6_worth_21 rfl ?_
          refine x_iload dX6_worth_23 rfl ?_
          refine x_icmp_ge (tgt := 133) dX6_worth_25 (by decide) (fun z => absurd z (Int32.not_le.mpr (nI_lt hlt2 (by omega)))) (fun _ => ?_)
          refine x_aload dX6_worth_28 rfl ?_
          refine x_iload dX6_worth_30 rfl ?_
          refine x_iaload dX6_worth_32 (hcod κ2) (vp_in_nI hlt2 (by omega)) (show Value.int (cs.getD (nI i).toNatClampNeg 0) = Value.int c by rw [nI_clamp (by omega), hci]) ?_
          refine x_istore dX6_worth_33 (by decide) ?_
          refine x_iload dX6_worth_35 rfl ?_
          refine x_if_ge (tgt := 69) dX6_worth_37 (by decide) (fun z => absurd z hp) (fun _ => ?_)
          refine x_ldcS dX6_worth_40 hlR ?_
          refine x_iload dX6_worth_42 rfl ?_
          refine x_ineg dX6_worth_44 ?_
          refine x_i2c dX6_worth_45 ?_
          rw [hch]
          refine x_oV1 dX6_worth_46 lv_X6_29 hlO rfl rfl  (c_J0_indexOf hz (by decide) lb_lab hlS' ?_)
          refine x_if_lt (tgt := 69) dX6_worth_49 (by decide) (fun _ => ?_) (fun z => absurd (by rw [show sxF pLabels (-c) pLabels.length 0 = -1 from sx_lab_f hlab]; decide) z)
          refine x_loc _ (?_ : lle _ _) (h69 hlab)
          exact ⟨rfl, rfl, rfl, rfl, rfl, rfl, rfl, rfl, rfl, trivial⟩
  refine CT.of rfl (Nat.le_of_ble_eq_true rfl) ?_
  refine x_iconst (v := 0) dX6_worth_0 (by decide) ?_
  refine x_istore dX6_worth_1 (by decide) ?_
  refine x_aload_n dX6_worth_3 rfl rfl ?_
  refine x_cV0 dX6_worth_4 lv_X6_22 (kc hi kf_14) rfl rfl rfl  (c_X3_clear hi ?_)
  intro κ1 hk1 hS1
  refine x_aload_n dX6_worth_7 rfl rfl ?_
  refine x_getf dX6_worth_8 lf_X6_18 (ob_4 hD hr) ov_4_2 ?_
  refine x_astore dX6_worth_11 (by decide) ?_
  refine x_aload dX6_worth_13 rfl ?_
  refine x_alen dX6_worth_15 (by decide) (by decide) (hcod κ1) ?_
  refine x_istore dX6_worth_16 (by decide) ?_
  refine x_iconst (v := 0) dX6_worth_18 (by decide) ?_
  refine x_istore dX6_worth_19 (by decide) ?_
  refine x_loc _ (?_ : lle _ _) (H cs 0 false [] κ1 List.drop_zero (Nat.zero_le _) (Nat.le_refl 0) hk1 hS1 hq)
  exact ⟨rfl, rfl, rfl, rfl, rfl, rfl, rfl, rfl, trivial⟩
end WTH
