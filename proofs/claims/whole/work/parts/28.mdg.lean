/-! the model's methods, 6: lot, beside, way -/
noncomputable def pLot (σ : MS) (n : Int32) : Prop := 1 ≤ n ∧ n ≤ σ.1 15
noncomputable def aLot (σ : MS) (n : Int32) (seed : Int64) (i : Int32) : Int32 := cI ((1 ≤ n ∧ n ≤ σ.1 15) ∧ (0 ≤ i ∧ i ≤ n - 1)) (nI ((lotS (cn σ 15) seed n.toNatClampNeg).2.2.getD i.toNatClampNeg 0)) (-1)
/-- MOODS of a DAY's LINES of those drawn -/
noncomputable def spBes (σ : MS) (day : Int32) (rem : List Nat) (n : Nat) : Int32 := fold (fun l s => if σ.2 9 l = day ∧ ¬ (σ.2 8 l).toNatClampNeg ∈ rem then s + σ.2 11 l else s) 0 n
noncomputable def aBes (σ : MS) (n : Int32) (seed : Int64) (day : Int32) : Int32 := cI ((0 ≤ day ∧ day ≤ σ.1 1) ∧ (1 ≤ n ∧ n ≤ σ.1 15)) (spBes σ day (lotS (cn σ 15) seed n.toNatClampNeg).2.1 (cn σ 16)) (-1000000)
section MDG
variable {G : Gam} {d : Nat} {k : Nat × Nat} {ad : Nat → Nat} {σ σ0 : MS} {M : Mem} {Q : Option Value → Mem → Prop}
theorem c_X12_lot {n : Int32} {seed : Int64} {i : Int32} (hi : adOK ad) (h0 : seti σ 0 0 = σ0) (hc : Cnt σ0) (hq : ∀ σ', dKeep σ0 σ' → Q (some (.int (aLot σ0 n seed i))) (mm ad σ')) : CT G (d + 2) (0, 0) MX12_lot [.ref (ad 99), .int n, .long seed, .int i] (mm ad σ) Q := by
  obtain ⟨hp1, hp2⟩ := hc.b 15 (b := 24) (by decide)
  have hs : dKeep σ0 σ0 := ⟨rfl, fun _ _ _ => rfl⟩
  refine CT.of rfl (Nat.le_of_ble_eq_true rfl) ?_
  refine x_aload_n dX12_lot_0 rfl rfl ?_
  refine x_iconst (v := 0) dX12_lot_1 (by decide) ?_
  refine xm_puti dX12_lot_2 lp_X12_138 vmq_0 vmn_0 vmf_0 ?_
  rw [h0]
  refine x_aload_n dX12_lot_5 rfl rfl ?_
  refine x_iload_n dX12_lot_6 rfl rfl ?_
  refine x_lload_n dX12_lot_7 rfl rfl ?_
  refine x_cV2 dX12_lot_8 lv_X12_406 mm_obj rfl rfl rfl (c_X12_draws hi hc (fun hn => ?_) (fun N σ' hN hN1 hN2 hd => ?_))
  · refine x_if_eq (tgt := 36) dX12_lot_11 (by decide) (fun _ => ?_) (fun z => absurd rfl z)
    refine x_iconst (v := -1) dX12_lot_36 (by decide) ?_
    exact x_ireturn dX12_lot_37 rfl rfl (fan_f (hq σ0 hs) (fun z => hn z.1))
  · subst hN
    have hok : 1 ≤ nI N ∧ nI N ≤ σ0.1 15 := ⟨nI_le (a := 1) hN1 (by omega), by rw [hp1]; exact nI_le hN2 (by omega)⟩
    refine x_if_eq (tgt := 36) dX12_lot_11 (by decide) (fun z => absurd z (by decide)) (fun _ => ?_)
    refine x_iload dX12_lot_14 rfl ?_
    refine x_iconst (v := 0) dX12_lot_16 (by decide) ?_
    refine x_iload_n dX12_lot_17 rfl rfl ?_
    refine x_iconst (v := 1) dX12_lot_18 (by decide) ?_
    refine x_isub dX12_lot_19 ?_
    refine x_cS3 dX12_lot_20 ls_X12_145 rfl  (c_X12_isIn ?_)
    refine x_if_eq_b (tgt := 36) dX12_lot_23 (by decide) (fun h23 => ?_) (fun h23 => ?_)
    · refine x_iconst (v := -1) dX12_lot_36 (by decide) ?_
      exact x_ireturn dX12_lot_37 rfl rfl (by first | exact hq | exact fan_f (hq σ' hd.1) (fun z => h23 z.2))
    · obtain ⟨j, hj, rfl⟩ := of_le (n := N - 1) h23.1 h23.2 (by rw [show (1 : Int32) = nI 1 from rfl, pk_sub hN1]) (by omega)
      have hin : vp_in (nI j) 24 := vp_in_nI (by omega) (by decide)
      have hcl : (nI j).toNatClampNeg = j := nI_clamp (by omega)
      have hq := fan_t (hq σ' hd.1) ⟨hok, h23⟩
      rw [hcl, nI_clamp (by omega), ← hd.2.2 j (by omega)] at hq
      refine x_aload_n dX12_lot_26 rfl rfl ?_
      refine xm_geta dX12_lot_27 lf_X12_135 vma_64 ?_
      refine x_iload dX12_lot_30 rfl ?_
      refine xm_iald 64 dX12_lot_32 mf_64 hi hin hcl ?_
      refine x_goto (tgt := 37) dX12_lot_33 (by decide) ?_
      exact x_ireturn dX12_lot_37 rfl rfl (by first | exact hq | exact fan_f (hq σ' hd.1) (fun z => h23 z.2))
theorem c_X12_beside {n : Int32} {seed : Int64} {day : Int32} (hi : adOK ad) (h0 : seti σ 0 0 = σ0) (hc : Cnt σ0) (hp : LinP σ0) (hq : ∀ σ', dKeep σ0 σ' → Q (some (.int (aBes σ0 n seed day))) (mm ad σ')) : CT G (d + 2) (0, 0) MX12_beside [.ref (ad 99), .int n, .long seed, .int day] (mm ad σ) Q := by
  obtain ⟨hp1, hp2⟩ := hc.b 15 (b := 24) (by decide)
  obtain ⟨hl1, hl2⟩ := hc.b 16 (b := 200) (by decide)
  have hs : dKeep σ0 σ0 := ⟨rfl, fun _ _ _ => rfl⟩
  refine CT.of rfl (Nat.le_of_ble_eq_true rfl) ?_
  refine x_aload_n dX12_beside_0 rfl rfl ?_
  refine x_iconst (v := 0) dX12_beside_1 (by decide) ?_
  refine xm_puti dX12_beside_2 lp_X12_138 vmq_0 vmn_0 vmf_0 ?_
  rw [h0]
  refine x_iload dX12_beside_5 rfl ?_
  refine x_iconst (v := 0) dX12_beside_7 (by decide) ?_
  refine x_aload_n dX12_beside_8 rfl rfl ?_
  refine xm_geti dX12_beside_9 lf_X12_142 vmi_1 ?_
  refine x_cS3 dX12_beside_12 ls_X12_145 rfl  (c_X12_isIn ?_)
  refine x_if_eq_b (tgt := 27) dX12_beside_15 (by decide) (fun h15 => ?_) (fun h15 => ?_)
  · refine x_ldcw dX12_beside_27 tb1627 ?_
    exact x_ireturn dX12_beside_30 rfl rfl (fan_f (hq σ0 hs) (fun z => h15 z.1))
  · refine x_aload_n dX12_beside_18 rfl rfl ?_
    refine x_iload_n dX12_beside_19 rfl rfl ?_
    refine x_lload_n dX12_beside_20 rfl rfl ?_
    refine x_cV2 dX12_beside_21 lv_X12_406 mm_obj rfl rfl rfl (c_X12_draws hi hc (fun hn => ?_) (fun N σ' hN hN1 hN2 hd => ?_))
    · refine x_if_ne (tgt := 31) dX12_beside_24 (by decide) (fun z => absurd rfl z) (fun _ => ?_)
      refine x_ldcw dX12_beside_27 tb1627 ?_
      exact x_ireturn dX12_beside_30 rfl rfl (fan_f (hq σ0 hs) (fun z => hn z.2))
    · subst hN
      have hok : 1 ≤ nI N ∧ nI N ≤ σ0.1 15 := ⟨nI_le (a := 1) hN1 (by omega), by rw [hp1]; exact nI_le hN2 (by omega)⟩
      have hq := fan_t (hq σ' hd.1) ⟨h15, hok⟩
      rw [nI_clamp (by omega)] at hq
      have hcn : σ'.1 16 = nI (cn σ0 16) := by rw [hd.1.1]; exact hl1
      have k8 : σ'.2 8 = σ0.2 8 := hd.1.2 8 (by decide) (by decide)
      have k9 : σ'.2 9 = σ0.2 9 := hd.1.2 9 (by decide) (by decide)
      have k11 : σ'.2 11 = σ0.2 11 := hd.1.2 11 (by decide) (by decide)
      refine x_if_ne (tgt := 31) dX12_beside_24 (by decide) (fun _ => ?_) (fun z => absurd z (by decide))
      refine x_iconst (v := 0) dX12_beside_31 (by decide) ?_
      refine x_istore dX12_beside_32 (by decide) ?_
      refine x_iconst (v := 0) dX12_beside_34 (by decide) ?_
      refine x_istore dX12_beside_35 (by decide) ?_
      refine x_loc [(0, .ref (ad 99)), (4, .int day), (5, .int (spBes σ0 day (lotS (cn σ0 15) seed N).2.1 0)), (6, .int (nI 0))] ⟨rfl, rfl, rfl, rfl, trivial⟩ ?_
      refine loop_up (P := fun l => XJ G (d + 2) (0, 0) MX12_beside (mm ad σ') [(0, .ref (ad 99)), (4, .int day), (5, .int (spBes σ0 day (lotS (cn σ0 15) seed N).2.1 l)), (6, .int (nI l))] [] 37 Q) (n := cn σ0 16) ?_ ?_ 0 (Nat.zero_le _)
      · refine x_iload dX12_beside_37 rfl ?_
        refine x_aload_n dX12_beside_39 rfl rfl ?_
        refine xm_geti dX12_beside_40 lf_X12_152 vmi_16 ?_
        refine x_icmp_ge (tgt := 95) dX12_beside_43 (by decide) (fun _ => ?_) (fun z => absurd (loopT hcn) z)
        refine x_iload dX12_beside_95 rfl ?_
        exact x_ireturn dX12_beside_97 rfl rfl (hq)
      · intro l hlt ih
        have hin : vp_in (nI l) 200 := vp_in_nI (by omega) (by decide)
        have hcl : (nI l).toNatClampNeg = l := nI_clamp (by omega)
        obtain ⟨z1, z2⟩ := hp l hlt
        obtain ⟨pp, hpp, epp⟩ := of_lt z1 z2 hp1 (by omega)
        have hin2 : vp_in (σ'.2 8 l) 24 := by rw [k8, epp]; exact vp_in_nI (by omega) (by decide)
        have hseen : σ'.2 43 (σ'.2 8 l).toNatClampNeg = if (σ0.2 8 l).toNatClampNeg ∈ (lotS (cn σ0 15) seed N).2.1 then 0 else 1 := by
          rw [k8, epp, nI_clamp (by omega)]; exact hd.2.1 pp hpp
        refine x_iload dX12_beside_37 rfl ?_
        refine x_aload_n dX12_beside_39 rfl rfl ?_
        refine xm_geti dX12_beside_40 lf_X12_152 vmi_16 ?_
        refine x_icmp_ge (tgt := 95) dX12_beside_43 (by decide) (fun z => absurd z (loopF hcn hlt (by omega))) (fun _ => ?_)
        refine x_iload dX12_beside_46 rfl ?_
        refine x_aload_n dX12_beside_48 rfl rfl ?_
        refine xm_geta dX12_beside_49 lf_X12_31 vma_9 ?_
        refine x_iload dX12_beside_52 rfl ?_
        refine xm_iald 9 dX12_beside_54 mf_9 hi hin hcl ?_
        refine x_iload dX12_beside_55 rfl ?_
        refine x_icmp_ne (tgt := 85) dX12_beside_57 (by decide) (fun h57 => ?_) (fun h57 => ?_)
        · refine x_iconst (v := 0) dX12_beside_85 (by decide) ?_
          refine x_iadd dX12_beside_86 ?_
          refine x_istore dX12_beside_87 (by decide) ?_
          refine x_iinc (c := 1) dX12_beside_89 rfl (by decide) ?_
          refine x_goto (tgt := 37) dX12_beside_92 (by decide) ?_
          refine x_loc _ (?_ : lle _ _) ih
          refine ⟨rfl, rfl, ?_, ?_, trivial⟩
          · show some (Value.int _) = some (Value.int (if σ0.2 9 l = day ∧ ¬ (σ0.2 8 l).toNatClampNeg ∈ (lotS (cn σ0 15) seed N).2.1 then spBes σ0 day (lotS (cn σ0 15) seed N).2.1 l + σ0.2 11 l else spBes σ0 day (lotS (cn σ0 15) seed N).2.1 l))
            rw [← k9, ← k11]
            clear ih hq; grind [Int32.add_zero]
          · show some (Value.int _) = some (Value.int (nI (l + 1)))
            rw [← nI_1]
        · refine x_aload_n dX12_beside_60 rfl rfl ?_
          refine xm_geta dX12_beside_61 lf_X12_90 vma_43 ?_
          refine x_aload_n dX12_beside_64 rfl rfl ?_
          refine xm_geta dX12_beside_65 lf_X12_28 vma_8 ?_
          refine x_iload dX12_beside_68 rfl ?_
          refine xm_iald 8 dX12_beside_70 mf_8 hi hin hcl ?_
          refine xm_zald 43 dX12_beside_71 mf_43 hi hin2 rfl ?_
          refine x_if_eq (tgt := 85) dX12_beside_72 (by decide) (fun h72 => ?_) (fun h72 => ?_)
          · refine x_iconst (v := 0) dX12_beside_85 (by decide) ?_
            refine x_iadd dX12_beside_86 ?_
            refine x_istore dX12_beside_87 (by decide) ?_
            refine x_iinc (c := 1) dX12_beside_89 rfl (by decide) ?_
            refine x_goto (tgt := 37) dX12_beside_92 (by decide) ?_
            refine x_loc _ (?_ : lle _ _) ih
            refine ⟨rfl, rfl, ?_, ?_, trivial⟩
            · show some (Value.int _) = some (Value.int (if σ0.2 9 l = day ∧ ¬ (σ0.2 8 l).toNatClampNeg ∈ (lotS (cn σ0 15) seed N).2.1 then spBes σ0 day (lotS (cn σ0 15) seed N).2.1 l + σ0.2 11 l else spBes σ0 day (lotS (cn σ0 15) seed N).2.1 l))
              rw [← k9, ← k11]
              clear ih hq; grind [Int32.add_zero]
            · show some (Value.int _) = some (Value.int (nI (l + 1)))
              rw [← nI_1]
          · refine x_aload_n dX12_beside_75 rfl rfl ?_
            refine xm_geta dX12_beside_76 lf_X12_37 vma_11 ?_
            refine x_iload dX12_beside_79 rfl ?_
            refine xm_iald 11 dX12_beside_81 mf_11 hi hin hcl ?_
            refine x_goto (tgt := 86) dX12_beside_82 (by decide) ?_
            refine x_iadd dX12_beside_86 ?_
            refine x_istore dX12_beside_87 (by decide) ?_
            refine x_iinc (c := 1) dX12_beside_89 rfl (by decide) ?_
            refine x_goto (tgt := 37) dX12_beside_92 (by decide) ?_
            refine x_loc _ (?_ : lle _ _) ih
            refine ⟨rfl, rfl, ?_, ?_, trivial⟩
            · show some (Value.int _) = some (Value.int (if σ0.2 9 l = day ∧ ¬ (σ0.2 8 l).toNatClampNeg ∈ (lotS (cn σ0 15) seed N).2.1 then spBes σ0 day (lotS (cn σ0 15) seed N).2.1 l + σ0.2 11 l else spBes σ0 day (lotS (cn σ0 15) seed N).2.1 l))
              rw [← k9, ← k11]
              clear ih hq; grind [Int32.add_zero]
            · show some (Value.int _) = some (Value.int (nI (l + 1)))
              rw [← nI_1]
end MDG
