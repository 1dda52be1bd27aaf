/-! the model's methods, 7: the way back -/
/-- from whom a line was heard -/
def LinF (σ : MS) : Prop := ∀ l, l < cn σ 16 → σ.2 13 l = -1 ∨ (0 ≤ σ.2 13 l ∧ σ.2 13 l < σ.1 15)
theorem spWord_keep {σ σ' : MS} {p say q : Int32} (h8 : σ'.2 8 = σ.2 8) (h12 : σ'.2 12 = σ.2 12) (h14 : σ'.2 14 = σ.2 14) (h9 : σ'.2 9 = σ.2 9) (n : Nat) : spWord σ' p say q n = spWord σ p say q n := by
  unfold spWord; rw [h8, h12, h14, h9]
section MDH
variable {G : Gam} {d : Nat} {k : Nat × Nat} {ad : Nat → Nat} {σ σ0 : MS} {M : Mem} {Q : Option Value → Mem → Prop}
theorem Cnt.keep {σ σ' : MS} (h : Cnt σ) (hk : σ'.1 = σ.1) : Cnt σ' := by
  intro q hq
  have := h q hq
  unfold Bnd cn at *
  rw [hk]; exact this
theorem c_X12_wordOfE {p say q w : Int32} (hi : adOK ad) (hc : Cnt σ) (hw : spWord σ p say q (cn σ 16) = w) (hq : Q (some (.int w)) (mm ad σ)) : CT G d (0, 0) MX12_wordOf [.ref (ad 99), .int p, .int say, .int q] (mm ad σ) Q := c_X12_wordOf hi hc (by rw [hw]; exact hq)
theorem way_s {σ : MS} {say q is steps : Int32} {met : List Int32} {f : Nat} : wayS σ say q (f + 1) is met steps = (if σ.2 13 (spWord σ is say q (cn σ 16)).toNatClampNeg = -1 then (is, 0, steps) else if spWord σ (σ.2 13 (spWord σ is say q (cn σ 16)).toNatClampNeg) say q (cn σ 16) = -1 ∨ σ.2 9 (spWord σ is say q (cn σ 16)).toNatClampNeg < σ.2 9 (spWord σ (σ.2 13 (spWord σ is say q (cn σ 16)).toNatClampNeg) say q (cn σ 16)).toNatClampNeg then (is, 1, steps) else if σ.2 13 (spWord σ is say q (cn σ 16)).toNatClampNeg ∈ is :: met then (σ.2 13 (spWord σ is say q (cn σ 16)).toNatClampNeg, 2, steps + 1) else wayS σ say q f (σ.2 13 (spWord σ is say q (cn σ 16)).toNatClampNeg) (is :: met) (steps + 1)) := rfl
/-- different persons, so few -/
theorem met_le {met : List Int32} {np : Nat} (hnp : np ≤ 24) (h1 : met.Nodup) (h2 : ∀ x ∈ met, ∃ j, j < np ∧ x = nI j) : met.length ≤ np := by
  have h3 : (met.map (fun x => x.toNatClampNeg)).Nodup := by
    rw [List.nodup_iff_pairwise_ne, List.pairwise_map]
    refine List.Pairwise.imp_of_mem ?_ (List.nodup_iff_pairwise_ne.mp h1)
    intro a b ha hb hne e
    obtain ⟨i, hi1, rfl⟩ := h2 a ha
    obtain ⟨j, hj1, rfl⟩ := h2 b hb
    rw [nI_clamp (by omega), nI_clamp (by omega)] at e
    exact hne (by rw [e])
  have h4 : (met.map (fun x => x.toNatClampNeg)) ⊆ List.range np := by
    intro y hy
    obtain ⟨x, hx, rfl⟩ := List.mem_map.mp hy
    obtain ⟨j, hj, rfl⟩ := h2 x hx
    rw [nI_clamp (by omega)]
    exact List.mem_range.mpr hj
  have := List.Nodup.length_le_of_subset h3 h4
  rw [List.length_map, List.length_range] at this
  exact this
theorem c_X12_way {p say q what : Int32} (hi : adOK ad) (h0 : seti σ 0 0 = σ0) (hc : Cnt σ0) (hf : LinF σ0) (hq : ∀ σ', dKeep σ0 σ' → Q (some (.int (aWay σ0 p say q what))) (mm ad σ')) : CT G (d + 2) (0, 0) MX12_way [.ref (ad 99), .int p, .int say, .int q, .int what] (mm ad σ) Q := by
  obtain ⟨hp1, hp2⟩ := hc.b 15 (b := 24) (by decide)
  obtain ⟨hl1, hl2⟩ := hc.b 16 (b := 200) (by decide)
  have hs : dKeep σ0 σ0 := ⟨rfl, fun _ _ _ => rfl⟩
  refine CT.of rfl (Nat.le_of_ble_eq_true rfl) ?_
  refine x_aload_n dX12_way_0 rfl rfl ?_
  refine x_iconst (v := 0) dX12_way_1 (by decide) ?_
  refine xm_puti dX12_way_2 lp_X12_138 vmq_0 vmn_0 vmf_0 ?_
  rw [h0]
  refine x_aload_n dX12_way_5 rfl rfl ?_
  refine x_iload_n dX12_way_6 rfl rfl ?_
  refine x_cV1 dX12_way_7 lv_X12_165 mm_obj rfl rfl rfl  (c_X12_isPerson ?_)
  refine x_if_eq_b (tgt := 52) dX12_way_10 (by decide) (fun h10 => ?_) (fun h10 => ?_)
  · refine x_iconst (v := -1) dX12_way_52 (by decide) ?_
    exact x_ireturn dX12_way_53 rfl rfl (fan_f (hq σ0 hs) (fun z => by first | exact h10 z.1 | exact h20 z.2.1 | exact h28 z.2.2.1 | exact h38 z.2.2.2.1 | exact z.2.2.2.2 (by assumption)))
  · refine x_iload_n dX12_way_13 rfl rfl ?_
    refine x_iconst (v := 0) dX12_way_14 (by decide) ?_
    refine x_bipush (v := 29) dX12_way_15 (by decide) ?_
    refine x_cS3 dX12_way_17 ls_X12_145 rfl  (c_X12_isIn ?_)
    refine x_if_eq_b (tgt := 52) dX12_way_20 (by decide) (fun h20 => ?_) (fun h20 => ?_)
    · refine x_iconst (v := -1) dX12_way_52 (by decide) ?_
      exact x_ireturn dX12_way_53 rfl rfl (fan_f (hq σ0 hs) (fun z => by first | exact h10 z.1 | exact h20 z.2.1 | exact h28 z.2.2.1 | exact h38 z.2.2.2.1 | exact z.2.2.2.2 (by assumption)))
    · refine x_aload_n dX12_way_23 rfl rfl ?_
      refine x_iload_n dX12_way_24 rfl rfl ?_
      refine x_cV1 dX12_way_25 lv_X12_159 mm_obj rfl rfl rfl  (c_X12_isKnown ?_)
      refine x_if_eq_b (tgt := 52) dX12_way_28 (by decide) (fun h28 => ?_) (fun h28 => ?_)
      · refine x_iconst (v := -1) dX12_way_52 (by decide) ?_
        exact x_ireturn dX12_way_53 rfl rfl (fan_f (hq σ0 hs) (fun z => by first | exact h10 z.1 | exact h20 z.2.1 | exact h28 z.2.2.1 | exact h38 z.2.2.2.1 | exact z.2.2.2.2 (by assumption)))
      · refine x_iload dX12_way_31 rfl ?_
        refine x_iconst (v := 0) dX12_way_33 (by decide) ?_
        refine x_iconst (v := 2) dX12_way_34 (by decide) ?_
        refine x_cS3 dX12_way_35 ls_X12_145 rfl  (c_X12_isIn ?_)
        refine x_if_eq_b (tgt := 52) dX12_way_38 (by decide) (fun h38 => ?_) (fun h38 => ?_)
        · refine x_iconst (v := -1) dX12_way_52 (by decide) ?_
          exact x_ireturn dX12_way_53 rfl rfl (fan_f (hq σ0 hs) (fun z => by first | exact h10 z.1 | exact h20 z.2.1 | exact h28 z.2.2.1 | exact h38 z.2.2.2.1 | exact z.2.2.2.2 (by assumption)))
        · refine x_aload_n dX12_way_41 rfl rfl ?_
          refine x_iload_n dX12_way_42 rfl rfl ?_
          refine x_iload_n dX12_way_43 rfl rfl ?_
          refine x_iload_n dX12_way_44 rfl rfl ?_
          refine x_cV3 dX12_way_45 lv_X12_332 mm_obj rfl rfl rfl  (c_X12_wordOf hi hc ?_)
          refine x_iconst (v := -1) dX12_way_48 (by decide) ?_
          refine x_icmp_ne (tgt := 54) dX12_way_49 (by decide) (fun h49 => ?_) (fun h49 => ?_)
          · have hq := fun σ' h => fan_t (hq σ' h) ⟨h10, h20, h28, h38, h49⟩
            have hexit : ∀ (e h s : Int32) (σ' : MS), h ≠ -1 → Q (some (.int (if what = 0 then e else if what = 1 then h else s))) (mm ad σ') → XJ G (d + 2) (0, 0) MX12_way (mm ad σ') [(0, .ref (ad 99)), (2, .int say), (3, .int q), (4, .int what), (5, .int e), (6, .int s), (7, .int h)] [] 89 Q := by
              intro e h s σ' hne hq
              refine x_iload dX12_way_89 rfl ?_
              refine x_iconst (v := -1) dX12_way_91 (by decide) ?_
              refine x_icmp_ne (tgt := 210) dX12_way_92 (by decide) (fun _ => ?_) (fun z => absurd z hne)
              refine x_iload dX12_way_210 rfl ?_
              refine x_if_ne (tgt := 220) dX12_way_212 (by decide) (fun h212 => ?_) (fun h212 => ?_)
              · refine x_iload dX12_way_220 rfl ?_
                refine x_iconst (v := 1) dX12_way_222 (by decide) ?_
                refine x_icmp_ne (tgt := 231) dX12_way_223 (by decide) (fun h223 => ?_) (fun h223 => ?_)
                · refine x_iload dX12_way_231 rfl ?_
                  exact x_ireturn dX12_way_233 rfl rfl (by first | (rw [if_pos h212] at hq; exact hq) | (rw [if_neg h212, if_pos h223] at hq; exact hq) | (rw [if_neg h212, if_neg h223] at hq; exact hq))
                · refine x_iload dX12_way_226 rfl ?_
                  refine x_goto (tgt := 233) dX12_way_228 (by decide) ?_
                  exact x_ireturn dX12_way_233 rfl rfl (by first | (rw [if_pos h212] at hq; exact hq) | (rw [if_neg h212, if_pos h223] at hq; exact hq) | (rw [if_neg h212, if_neg h223] at hq; exact hq))
              · refine x_iload dX12_way_215 rfl ?_
                refine x_goto (tgt := 233) dX12_way_217 (by decide) ?_
                exact x_ireturn dX12_way_233 rfl rfl (by first | (rw [if_pos h212] at hq; exact hq) | (rw [if_neg h212, if_pos h223] at hq; exact hq) | (rw [if_neg h212, if_neg h223] at hq; exact hq))
            have hmain : ∀ (f : Nat) (is steps : Int32) (met : List Int32) (σ' : MS), dKeep σ0 σ' → (is :: met).length + f = 25 → (is :: met).Nodup → (∀ x ∈ is :: met, ∃ j, j < cn σ0 15 ∧ x = nI j) → spWord σ0 is say q (cn σ0 16) ≠ -1 → (∀ j, j < cn σ0 15 → σ'.2 43 j = if nI j ∈ met then 1 else 0) → (∀ σ', dKeep σ0 σ' → Q (some (.int (if what = 0 then (wayS σ0 say q (f + 1) is met steps).1 else if what = 1 then (wayS σ0 say q (f + 1) is met steps).2.1 else (wayS σ0 say q (f + 1) is met steps).2.2))) (mm ad σ')) → XJ G (d + 2) (0, 0) MX12_way (mm ad σ') [(0, .ref (ad 99)), (2, .int say), (3, .int q), (4, .int what), (5, .int is), (6, .int steps), (7, .int (-1))] [] 89 Q := by
              intro f
              induction f with
              | zero =>
                intro is steps met σ' hk hlen hnd hval
                have := met_le hp2 hnd hval
                omega
              | succ f ihf =>
                intro is steps met σ' hk hlen hnd hval hw hseen hq
                obtain ⟨ip, hip, rfl⟩ := hval is List.mem_cons_self
                rw [way_s] at hq
                obtain ⟨wj, hwj, ew⟩ := (spWord_cases (σ := σ0) (p := nI ip) (say := say) (q := q) (cn σ0 16)).resolve_left hw
                have hwc : (nI wj).toNatClampNeg = wj := nI_clamp (by omega)
                have hinw : vp_in (nI wj) 200 := vp_in_nI (by omega) (by decide)
                rw [ew, hwc] at hq
                have hinp : vp_in (nI ip) 24 := vp_in_nI (by omega) (by decide)
                have hcp : (nI ip).toNatClampNeg = ip := nI_clamp (by omega)
                have hk1 : dKeep σ0 (seta σ' 43 ip (1 &&& 1)) := hk.seta (Or.inl rfl)
                have hseen1 : ∀ j, j < cn σ0 15 → (seta σ' 43 ip (1 &&& 1)).2 43 j = if nI j ∈ nI ip :: met then 1 else 0 := by
                  intro j hj
                  rw [seta_eq]
                  by_cases e : j = ip
                  · subst e
                    rw [updB_eq, if_pos List.mem_cons_self]; rfl
                  · rw [updB_ne e, hseen j hj]
                    have h9 : (nI j ∈ nI ip :: met) ↔ nI j ∈ met := by
                      rw [List.mem_cons]
                      exact ⟨fun z => z.elim (fun y => absurd ((nI_eq (by omega) (by omega)).mp y) e) id, Or.inr⟩
                    by_cases e2 : nI j ∈ met
                    · rw [if_pos e2, if_pos (h9.mpr e2)]
                    · rw [if_neg e2, if_neg (fun z => e2 (h9.mp z))]
                generalize hs1 : seta σ' 43 ip (1 &&& 1) = σ1 at hk1 hseen1
                have hc1 : Cnt σ1 := hc.keep hk1.1
                have k8 : σ1.2 8 = σ0.2 8 := hk1.2 8 (by decide) (by decide)
                have k9 : σ1.2 9 = σ0.2 9 := hk1.2 9 (by decide) (by decide)
                have k12 : σ1.2 12 = σ0.2 12 := hk1.2 12 (by decide) (by decide)
                have k13 : σ1.2 13 = σ0.2 13 := hk1.2 13 (by decide) (by decide)
                have k14 : σ1.2 14 = σ0.2 14 := hk1.2 14 (by decide) (by decide)
                have kc : cn σ1 16 = cn σ0 16 := by unfold cn; rw [hk1.1]
                have hw1 : spWord σ1 (nI ip) say q (cn σ1 16) = nI wj := by rw [kc, spWord_keep k8 k12 k14 k9, ew]
                have hsrc : σ1.2 13 wj = σ0.2 13 wj := by rw [k13]
                generalize hsr : σ0.2 13 wj = src at hq hsrc
                have hw2 : spWord σ1 src say q (cn σ1 16) = spWord σ0 src say q (cn σ0 16) := by rw [kc, spWord_keep k8 k12 k14 k9]
                generalize ho : spWord σ0 src say q (cn σ0 16) = oth at hq hw2
                have hfw := hf wj hwj
                rw [hsr] at hfw
                refine x_iload dX12_way_89 rfl ?_
                refine x_iconst (v := -1) dX12_way_91 (by decide) ?_
                refine x_icmp_ne (tgt := 210) dX12_way_92 (by decide) (fun z => absurd rfl z) (fun _ => ?_)
                refine x_aload_n dX12_way_95 rfl rfl ?_
                refine xm_geta dX12_way_96 lf_X12_90 vma_43 ?_
                refine x_iload dX12_way_99 rfl ?_
                refine x_iconst (v := 1) dX12_way_101 (by decide) ?_
                refine xm_zast 43 dX12_way_102 mf_43 hi hinp hcp ?_
                rw [hs1]
                refine x_aload_n dX12_way_103 rfl rfl ?_
                refine x_iload dX12_way_104 rfl ?_
                refine x_iload_n dX12_way_106 rfl rfl ?_
                refine x_iload_n dX12_way_107 rfl rfl ?_
                refine x_cV3 dX12_way_108 lv_X12_332 mm_obj rfl rfl rfl  (c_X12_wordOfE hi hc1 hw1 ?_)
                refine x_istore dX12_way_111 (by decide) ?_
                refine x_aload_n dX12_way_113 rfl rfl ?_
                refine xm_geta dX12_way_114 lf_X12_43 vma_13 ?_
                refine x_iload dX12_way_117 rfl ?_
                refine xm_iald 13 dX12_way_119 mf_13 hi hinw hwc ?_
                refine x_istore dX12_way_120 (by decide) ?_
                refine x_loc [(0, .ref (ad 99)), (2, .int say), (3, .int q), (4, .int what), (5, .int (nI ip)), (6, .int steps), (8, .int (nI wj)), (9, .int src)] ⟨rfl, rfl, rfl, rfl, rfl, rfl, rfl, congrArg some (congrArg Value.int hsrc), trivial⟩ ?_
                refine x_iload dX12_way_122 rfl ?_
                refine x_iconst (v := -1) dX12_way_124 (by decide) ?_
                refine x_icmp_ne (tgt := 132) dX12_way_125 (by decide) (fun h125 => ?_) (fun h125 => ?_)
                · refine x_aload_n dX12_way_132 rfl rfl ?_
                  refine x_iload dX12_way_133 rfl ?_
                  refine x_iload_n dX12_way_135 rfl rfl ?_
                  refine x_iload_n dX12_way_136 rfl rfl ?_
                  refine x_cV3 dX12_way_137 lv_X12_332 mm_obj rfl rfl rfl  (c_X12_wordOfE hi hc1 hw2 ?_)
                  refine x_istore dX12_way_140 (by decide) ?_
                  refine x_iload dX12_way_142 rfl ?_
                  refine x_iconst (v := -1) dX12_way_144 (by decide) ?_
                  refine x_icmp_ne (tgt := 154) dX12_way_145 (by decide) (fun _ => ?_) (fun z => absurd z h125)
                  refine x_iload dX12_way_154 rfl ?_
                  refine x_iconst (v := -1) dX12_way_156 (by decide) ?_
                  refine x_icmp_eq (tgt := 177) dX12_way_157 (by decide) (fun h157 => ?_) (fun h157 => ?_)
                  · refine x_iconst (v := 1) dX12_way_177 (by decide) ?_
                    refine x_istore dX12_way_178 (by decide) ?_
                    refine x_goto (tgt := 207) dX12_way_180 (by decide) ?_
                    refine x_goto (tgt := 89) dX12_way_207 (by decide) ?_
                    first
                    | exact x_loc [(0, .ref (ad 99)), (2, .int say), (3, .int q), (4, .int what), (5, .int (nI ip)), (6, .int steps), (7, .int 1)] ⟨rfl, rfl, rfl, rfl, rfl, rfl, rfl, trivial⟩ (hexit (nI ip) 1 steps σ1 (by decide) (by have h9 := hq σ1 hk1; rw [if_neg h125, if_pos (show oth = -1 ∨ σ0.2 9 wj < σ0.2 9 oth.toNatClampNeg by first | exact Or.inl h157 | (right; rw [← k9]; exact Int32.not_le.mp h174))] at h9; exact h9))
                    | exact x_loc [(0, .ref (ad 99)), (2, .int say), (3, .int q), (4, .int what), (5, .int src), (6, .int (steps + 1)), (7, .int 2)] ⟨rfl, rfl, rfl, rfl, rfl, rfl, rfl, trivial⟩ (hexit src 2 (steps + 1) σ1 (by decide) (by
                        have h9 := hq σ1 hk1
                        rw [if_neg h125, if_neg (show ¬ (oth = -1 ∨ σ0.2 9 wj < σ0.2 9 oth.toNatClampNeg) from fun z => z.elim h157 (fun y => by rw [← k9] at y; exact absurd h174 (Int32.not_le.mpr y))), if_pos (show src ∈ nI ip :: met by
                          refine Classical.byContradiction fun z => ?_
                          rw [if_neg z] at hse
                          exact h190 hse)] at h9
                        exact h9))
                    | exact x_loc [(0, .ref (ad 99)), (2, .int say), (3, .int q), (4, .int what), (5, .int src), (6, .int (steps + 1)), (7, .int (-1))] ⟨rfl, rfl, rfl, rfl, rfl, rfl, rfl, trivial⟩ (by
                        have hnm : ¬ src ∈ nI ip :: met := fun z => by
                          rw [if_pos z] at hse
                          rw [hse] at h190
                          exact absurd h190 (by decide)
                        refine ihf src (steps + 1) (nI ip :: met) σ1 hk1 (by simp only [List.length_cons] at hlen ⊢; omega) (List.nodup_cons.mpr ⟨hnm, hnd⟩) (fun x hx => (List.mem_cons.mp hx).elim (fun y => ⟨sj, hsj, y.trans es⟩) (hval x)) (by rw [ho]; exact h157) hseen1 (fun σ2 hk2 => ?_)
                        have h9 := hq σ2 hk2
                        rw [if_neg h125, if_neg (show ¬ (oth = -1 ∨ σ0.2 9 wj < σ0.2 9 oth.toNatClampNeg) from fun z => z.elim h157 (fun y => by rw [← k9] at y; exact absurd h174 (Int32.not_le.mpr y))), if_neg hnm] at h9
                        exact h9)
                  · have hoc : oth = -1 ∨ ∃ j, j < cn σ0 16 ∧ oth = nI j := by rw [← ho]; exact spWord_cases _
                    obtain ⟨oj, hoj, eo⟩ := hoc.resolve_left h157
                    have hino : vp_in oth 200 := by rw [eo]; exact vp_in_nI (by omega) (by decide)
                    refine x_aload_n dX12_way_160 rfl rfl ?_
                    refine xm_geta dX12_way_161 lf_X12_31 vma_9 ?_
                    refine x_iload dX12_way_164 rfl ?_
                    refine xm_iald 9 dX12_way_166 mf_9 hi hino rfl ?_
                    refine x_aload_n dX12_way_167 rfl rfl ?_
                    refine xm_geta dX12_way_168 lf_X12_31 vma_9 ?_
                    refine x_iload dX12_way_171 rfl ?_
                    refine xm_iald 9 dX12_way_173 mf_9 hi hinw hwc ?_
                    refine x_icmp_le (tgt := 183) dX12_way_174 (by decide) (fun h174 => ?_) (fun h174 => ?_)
                    · obtain ⟨sj, hsj, es⟩ : ∃ j, j < cn σ0 15 ∧ src = nI j := by
                        obtain ⟨z1, z2⟩ := hfw.resolve_left h125
                        exact of_lt z1 z2 hp1 (by omega)
                      have hins : vp_in src 24 := by rw [es]; exact vp_in_nI (by omega) (by decide)
                      have hcs : src.toNatClampNeg = sj := by rw [es]; exact nI_clamp (by omega)
                      have hse := hseen1 sj hsj
                      rw [← es] at hse
                      refine x_aload_n dX12_way_183 rfl rfl ?_
                      refine xm_geta dX12_way_184 lf_X12_90 vma_43 ?_
                      refine x_iload dX12_way_187 rfl ?_
                      refine xm_zald 43 dX12_way_189 mf_43 hi hins hcs ?_
                      refine x_if_eq (tgt := 197) dX12_way_190 (by decide) (fun h190 => ?_) (fun h190 => ?_)
                      · refine x_iconst (v := -1) dX12_way_197 (by decide) ?_
                        refine x_istore dX12_way_198 (by decide) ?_
                        refine x_iload dX12_way_200 rfl ?_
                        refine x_istore dX12_way_202 (by decide) ?_
                        refine x_iinc (c := 1) dX12_way_204 rfl (by decide) ?_
                        refine x_goto (tgt := 89) dX12_way_207 (by decide) ?_
                        first
                        | exact x_loc [(0, .ref (ad 99)), (2, .int say), (3, .int q), (4, .int what), (5, .int (nI ip)), (6, .int steps), (7, .int 1)] ⟨rfl, rfl, rfl, rfl, rfl, rfl, rfl, trivial⟩ (hexit (nI ip) 1 steps σ1 (by decide) (by have h9 := hq σ1 hk1; rw [if_neg h125, if_pos (show oth = -1 ∨ σ0.2 9 wj < σ0.2 9 oth.toNatClampNeg by first | exact Or.inl h157 | (right; rw [← k9]; exact Int32.not_le.mp h174))] at h9; exact h9))
                        | exact x_loc [(0, .ref (ad 99)), (2, .int say), (3, .int q), (4, .int what), (5, .int src), (6, .int (steps + 1)), (7, .int 2)] ⟨rfl, rfl, rfl, rfl, rfl, rfl, rfl, trivial⟩ (hexit src 2 (steps + 1) σ1 (by decide) (by
                            have h9 := hq σ1 hk1
                            rw [if_neg h125, if_neg (show ¬ (oth = -1 ∨ σ0.2 9 wj < σ0.2 9 oth.toNatClampNeg) from fun z => z.elim h157 (fun y => by rw [← k9] at y; exact absurd h174 (Int32.not_le.mpr y))), if_pos (show src ∈ nI ip :: met by
                              refine Classical.byContradiction fun z => ?_
                              rw [if_neg z] at hse
                              exact h190 hse)] at h9
                            exact h9))
                        | exact x_loc [(0, .ref (ad 99)), (2, .int say), (3, .int q), (4, .int what), (5, .int src), (6, .int (steps + 1)), (7, .int (-1))] ⟨rfl, rfl, rfl, rfl, rfl, rfl, rfl, trivial⟩ (by
                            have hnm : ¬ src ∈ nI ip :: met := fun z => by
                              rw [if_pos z] at hse
                              rw [hse] at h190
                              exact absurd h190 (by decide)
                            refine ihf src (steps + 1) (nI ip :: met) σ1 hk1 (by simp only [List.length_cons] at hlen ⊢; omega) (List.nodup_cons.mpr ⟨hnm, hnd⟩) (fun x hx => (List.mem_cons.mp hx).elim (fun y => ⟨sj, hsj, y.trans es⟩) (hval x)) (by rw [ho]; exact h157) hseen1 (fun σ2 hk2 => ?_)
                            have h9 := hq σ2 hk2
                            rw [if_neg h125, if_neg (show ¬ (oth = -1 ∨ σ0.2 9 wj < σ0.2 9 oth.toNatClampNeg) from fun z => z.elim h157 (fun y => by rw [← k9] at y; exact absurd h174 (Int32.not_le.mpr y))), if_neg hnm] at h9
                            exact h9)
                      · refine x_iconst (v := 2) dX12_way_193 (by decide) ?_
                        refine x_goto (tgt := 198) dX12_way_194 (by decide) ?_
                        refine x_istore dX12_way_198 (by decide) ?_
                        refine x_iload dX12_way_200 rfl ?_
                        refine x_istore dX12_way_202 (by decide) ?_
                        refine x_iinc (c := 1) dX12_way_204 rfl (by decide) ?_
                        refine x_goto (tgt := 89) dX12_way_207 (by decide) ?_
                        first
                        | exact x_loc [(0, .ref (ad 99)), (2, .int say), (3, .int q), (4, .int what), (5, .int (nI ip)), (6, .int steps), (7, .int 1)] ⟨rfl, rfl, rfl, rfl, rfl, rfl, rfl, trivial⟩ (hexit (nI ip) 1 steps σ1 (by decide) (by have h9 := hq σ1 hk1; rw [if_neg h125, if_pos (show oth = -1 ∨ σ0.2 9 wj < σ0.2 9 oth.toNatClampNeg by first | exact Or.inl h157 | (right; rw [← k9]; exact Int32.not_le.mp h174))] at h9; exact h9))
                        | exact x_loc [(0, .ref (ad 99)), (2, .int say), (3, .int q), (4, .int what), (5, .int src), (6, .int (steps + 1)), (7, .int 2)] ⟨rfl, rfl, rfl, rfl, rfl, rfl, rfl, trivial⟩ (hexit src 2 (steps + 1) σ1 (by decide) (by
                            have h9 := hq σ1 hk1
                            rw [if_neg h125, if_neg (show ¬ (oth = -1 ∨ σ0.2 9 wj < σ0.2 9 oth.toNatClampNeg) from fun z => z.elim h157 (fun y => by rw [← k9] at y; exact absurd h174 (Int32.not_le.mpr y))), if_pos (show src ∈ nI ip :: met by
                              refine Classical.byContradiction fun z => ?_
                              rw [if_neg z] at hse
                              exact h190 hse)] at h9
                            exact h9))
                        | exact x_loc [(0, .ref (ad 99)), (2, .int say), (3, .int q), (4, .int what), (5, .int src), (6, .int (steps + 1)), (7, .int (-1))] ⟨rfl, rfl, rfl, rfl, rfl, rfl, rfl, trivial⟩ (by
                            have hnm : ¬ src ∈ nI ip :: met := fun z => by
                              rw [if_pos z] at hse
                              rw [hse] at h190
                              exact absurd h190 (by decide)
                            refine ihf src (steps + 1) (nI ip :: met) σ1 hk1 (by simp only [List.length_cons] at hlen ⊢; omega) (List.nodup_cons.mpr ⟨hnm, hnd⟩) (fun x hx => (List.mem_cons.mp hx).elim (fun y => ⟨sj, hsj, y.trans es⟩) (hval x)) (by rw [ho]; exact h157) hseen1 (fun σ2 hk2 => ?_)
                            have h9 := hq σ2 hk2
                            rw [if_neg h125, if_neg (show ¬ (oth = -1 ∨ σ0.2 9 wj < σ0.2 9 oth.toNatClampNeg) from fun z => z.elim h157 (fun y => by rw [← k9] at y; exact absurd h174 (Int32.not_le.mpr y))), if_neg hnm] at h9
                            exact h9)
                    · refine x_iconst (v := 1) dX12_way_177 (by decide) ?_
                      refine x_istore dX12_way_178 (by decide) ?_
                      refine x_goto (tgt := 207) dX12_way_180 (by decide) ?_
                      refine x_goto (tgt := 89) dX12_way_207 (by decide) ?_
                      first
                      | exact x_loc [(0, .ref (ad 99)), (2, .int say), (3, .int q), (4, .int what), (5, .int (nI ip)), (6, .int steps), (7, .int 1)] ⟨rfl, rfl, rfl, rfl, rfl, rfl, rfl, trivial⟩ (hexit (nI ip) 1 steps σ1 (by decide) (by have h9 := hq σ1 hk1; rw [if_neg h125, if_pos (show oth = -1 ∨ σ0.2 9 wj < σ0.2 9 oth.toNatClampNeg by first | exact Or.inl h157 | (right; rw [← k9]; exact Int32.not_le.mp h174))] at h9; exact h9))
                      | exact x_loc [(0, .ref (ad 99)), (2, .int say), (3, .int q), (4, .int what), (5, .int src), (6, .int (steps + 1)), (7, .int 2)] ⟨rfl, rfl, rfl, rfl, rfl, rfl, rfl, trivial⟩ (hexit src 2 (steps + 1) σ1 (by decide) (by
                          have h9 := hq σ1 hk1
                          rw [if_neg h125, if_neg (show ¬ (oth = -1 ∨ σ0.2 9 wj < σ0.2 9 oth.toNatClampNeg) from fun z => z.elim h157 (fun y => by rw [← k9] at y; exact absurd h174 (Int32.not_le.mpr y))), if_pos (show src ∈ nI ip :: met by
                            refine Classical.byContradiction fun z => ?_
                            rw [if_neg z] at hse
                            exact h190 hse)] at h9
                          exact h9))
                      | exact x_loc [(0, .ref (ad 99)), (2, .int say), (3, .int q), (4, .int what), (5, .int src), (6, .int (steps + 1)), (7, .int (-1))] ⟨rfl, rfl, rfl, rfl, rfl, rfl, rfl, trivial⟩ (by
                          have hnm : ¬ src ∈ nI ip :: met := fun z => by
                            rw [if_pos z] at hse
                            rw [hse] at h190
                            exact absurd h190 (by decide)
                          refine ihf src (steps + 1) (nI ip :: met) σ1 hk1 (by simp only [List.length_cons] at hlen ⊢; omega) (List.nodup_cons.mpr ⟨hnm, hnd⟩) (fun x hx => (List.mem_cons.mp hx).elim (fun y => ⟨sj, hsj, y.trans es⟩) (hval x)) (by rw [ho]; exact h157) hseen1 (fun σ2 hk2 => ?_)
                          have h9 := hq σ2 hk2
                          rw [if_neg h125, if_neg (show ¬ (oth = -1 ∨ σ0.2 9 wj < σ0.2 9 oth.toNatClampNeg) from fun z => z.elim h157 (fun y => by rw [← k9] at y; exact absurd h174 (Int32.not_le.mpr y))), if_neg hnm] at h9
                          exact h9)
                · refine x_iconst (v := -1) dX12_way_128 (by decide) ?_
                  refine x_goto (tgt := 140) dX12_way_129 (by decide) ?_
                  refine x_istore dX12_way_140 (by decide) ?_
                  refine x_iload dX12_way_142 rfl ?_
                  refine x_iconst (v := -1) dX12_way_144 (by decide) ?_
                  refine x_icmp_ne (tgt := 154) dX12_way_145 (by decide) (fun z => absurd h125 z) (fun _ => ?_)
                  refine x_iconst (v := 0) dX12_way_148 (by decide) ?_
                  refine x_istore dX12_way_149 (by decide) ?_
                  refine x_goto (tgt := 207) dX12_way_151 (by decide) ?_
                  refine x_goto (tgt := 89) dX12_way_207 (by decide) ?_
                  first
                  | exact x_loc [(0, .ref (ad 99)), (2, .int say), (3, .int q), (4, .int what), (5, .int (nI ip)), (6, .int steps), (7, .int 0)] ⟨rfl, rfl, rfl, rfl, rfl, rfl, rfl, trivial⟩ (hexit (nI ip) 0 steps σ1 (by decide) (by have h9 := hq σ1 hk1; rw [if_pos h125] at h9; exact h9))
            refine x_iconst (v := 0) dX12_way_54 (by decide) ?_
            refine x_istore dX12_way_55 (by decide) ?_
            refine x_loc [(0, .ref (ad 99)), (1, .int p), (2, .int say), (3, .int q), (4, .int what), (5, .int (nI 0))] ⟨rfl, rfl, rfl, rfl, rfl, rfl, trivial⟩ ?_
            refine loop_up (P := fun i => ∀ σ', dKeep σ0 σ' → (∀ p, p < i → σ'.2 43 p = 0) → XJ G (d + 2) (0, 0) MX12_way (mm ad σ') [(0, .ref (ad 99)), (1, .int p), (2, .int say), (3, .int q), (4, .int what), (5, .int (nI i))] [] 57 Q) (n := cn σ0 15) ?_ ?_ 0 (Nat.zero_le _) σ0 hs (fun p h => absurd h (Nat.not_lt_zero p))
            · intro σ1 hk1 hz1
              have hcnt : σ1.1 15 = nI (cn σ0 15) := by rw [hk1.1]; exact hp1
              refine x_iload dX12_way_57 rfl ?_
              refine x_aload_n dX12_way_59 rfl rfl ?_
              refine xm_geti dX12_way_60 lf_X12_149 vmi_15 ?_
              refine x_icmp_ge (tgt := 80) dX12_way_63 (by decide) (fun _ => ?_) (fun z => absurd (by rw [hcnt]; exact Int32.le_refl _) z)
              refine x_iload_n dX12_way_80 rfl rfl ?_
              refine x_istore dX12_way_81 (by decide) ?_
              refine x_iconst (v := 0) dX12_way_83 (by decide) ?_
              refine x_istore dX12_way_84 (by decide) ?_
              refine x_iconst (v := -1) dX12_way_86 (by decide) ?_
              refine x_istore dX12_way_87 (by decide) ?_
              obtain ⟨pj, hpj, ep⟩ := of_lt h10.1 h10.2 hp1 (by omega)
              refine x_loc [(0, .ref (ad 99)), (2, .int say), (3, .int q), (4, .int what), (5, .int p), (6, .int 0), (7, .int (-1))] ⟨rfl, rfl, rfl, rfl, rfl, rfl, rfl, trivial⟩ ?_
              exact hmain 24 p 0 [] σ1 hk1 rfl (List.nodup_cons.mpr ⟨List.not_mem_nil, List.nodup_nil⟩) (fun x hx => (List.mem_cons.mp hx).elim (fun y => ⟨pj, hpj, y.trans ep⟩) (fun y => absurd y List.not_mem_nil)) h49 (fun j hj => (hz1 j hj).trans (if_neg List.not_mem_nil).symm) hq
            · intro i hlt ih σ1 hk1 hz1
              have hcnt : σ1.1 15 = nI (cn σ0 15) := by rw [hk1.1]; exact hp1
              have hin : vp_in (nI i) 24 := vp_in_nI (by omega) (by decide)
              have hcl : (nI i).toNatClampNeg = i := nI_clamp (by omega)
              refine x_iload dX12_way_57 rfl ?_
              refine x_aload_n dX12_way_59 rfl rfl ?_
              refine xm_geti dX12_way_60 lf_X12_149 vmi_15 ?_
              refine x_icmp_ge (tgt := 80) dX12_way_63 (by decide) (fun z => absurd z (by rw [hcnt]; exact Int32.not_le.mpr (nI_lt hlt (by omega)))) (fun _ => ?_)
              refine x_aload_n dX12_way_66 rfl rfl ?_
              refine xm_geta dX12_way_67 lf_X12_90 vma_43 ?_
              refine x_iload dX12_way_70 rfl ?_
              refine x_iconst (v := 0) dX12_way_72 (by decide) ?_
              refine xm_zast 43 dX12_way_73 mf_43 hi hin hcl ?_
              refine x_iinc (c := 1) dX12_way_74 rfl (by decide) ?_
              refine x_goto (tgt := 57) dX12_way_77 (by decide) ?_
              refine x_loc _ (?_ : lle _ _) (ih _ (hk1.seta (Or.inl rfl)) (fun p hp => ?_))
              · exact ⟨rfl, rfl, rfl, rfl, rfl, congrArg some (congrArg Value.int (nI_1 _)), trivial⟩
              · rw [seta_eq]
                by_cases e : p = i
                · subst e; rw [updB_eq]; rfl
                · rw [updB_ne e]; exact hz1 p (by omega)
          · refine x_iconst (v := -1) dX12_way_52 (by decide) ?_
            exact x_ireturn dX12_way_53 rfl rfl (fan_f (hq σ0 hs) (fun z => by first | exact h10 z.1 | exact h20 z.2.1 | exact h28 z.2.2.1 | exact h38 z.2.2.2.1 | exact z.2.2.2.2 (by assumption)))
end MDH
