/-! the class, 10: lots -/
def KL (κ κ' : MS) : Prop := κ'.1 = κ.1 ∧ ∀ r, ¬ r = 16 → κ'.2 r = κ.2 r
theorem KL.a {κ κ' : MS} {i : Nat} {v : Int32} (h : KL κ κ') : KL κ (seta κ' 16 i v) := ⟨h.1, fun k hk => (seta_ne hk).trans (h.2 k hk)⟩
theorem KL.rf {κ : MS} : KL κ κ := ⟨rfl, fun _ _ => rfl⟩
theorem Kap_KL {σ κ κ' : MS} (h : KL κ κ') (hK : Kap σ κ) : Kap σ κ' := by
  obtain ⟨h1, h2, h3, ⟨t1, t2, t3, t4⟩, h5⟩ := hK
  unfold Kap TabK
  rw [h.1, h.2 17 (by decide), h.2 20 (by decide), h.2 21 (by decide), h.2 22 (by decide), h.2 23 (by decide)]
  exact ⟨h1, h2, h3, ⟨t1, t2, t3, t4⟩, fun p s hp hs => by rw [h.2 (30 + p) (by omega)]; exact h5 p s hp hs⟩
theorem Wld_KL {G : Gam} {τ : Nat → Nat} {ω : Nat → Nat → Nat} {ε : Nat → Nat} {σ κ κ' : MS} {Md : Mem} (h : KL κ κ') (hW : Wld G τ ω ε σ κ Md) : Wld G τ ω ε σ κ' Md := ⟨hW.1, hW.2.1, hW.2.2.1, Kap_KL h hW.2.2.2⟩
/-- the row holds these, then the others -/
def lotR (np : Nat) (seed : Int64) (k : Nat) : List Nat := (lotS np seed k).2.2 ++ (lotS np seed k).2.1
def LoI (κ : MS) (np : Nat) (seed : Int64) (k : Nat) : Prop := ∀ i, i < np → κ.2 16 i = nI ((lotR np seed k).getD i 0)
theorem getD_app1 {A B : List Nat} {i : Nat} (h : i < A.length) : (A ++ B).getD i 0 = A.getD i 0 := by
  rw [List.getD_eq_getElem?_getD, List.getD_eq_getElem?_getD, List.getElem?_append_left h]
theorem getD_app2 {A B : List Nat} {i : Nat} (h : A.length ≤ i) : (A ++ B).getD i 0 = B.getD (i - A.length) 0 := by
  rw [List.getD_eq_getElem?_getD, List.getD_eq_getElem?_getD, List.getElem?_append_right h]
theorem getD_er {A : List Nat} {j i : Nat} : (A.eraseIdx j).getD i 0 = if i < j then A.getD i 0 else A.getD (i + 1) 0 := by
  rw [List.getD_eq_getElem?_getD, List.getD_eq_getElem?_getD, List.getD_eq_getElem?_getD, List.getElem?_eraseIdx]
  split <;> rfl
section CLI
variable {G : Gam} {d : Nat} {τ : Nat → Nat} {ω : Nat → Nat → Nat} {ε : Nat → Nat} {σ κ : MS} {Md : Mem} {M : Mem} {Q : Option Value → Mem → Prop} {k : Nat}
theorem c_X11_draw {n : Nat} {seed : Int64} (hW : Wld G τ ω ε σ κ Md) (hn1 : 1 ≤ n) (hn : n ≤ cn σ 15) (hq : ∀ κ', KL κ κ' → LoI κ' (cn σ 15) seed n → Q none (cm τ κ' Md)) : CT G (d + 1) (0, 0) MX11_draw [.ref (τ 0), .int (nI n), .long seed] (cm τ κ Md) Q := by
  obtain ⟨hi, hc, hD, hK⟩ := hW
  have hp2 := (hc.b 15 (b := 24) (by decide)).2
  refine CT.of rfl (Nat.le_of_ble_eq_true rfl) ?_
  generalize hnp : cn σ 15 = np at *
  have H : ∀ f i κ', i + f = n → KL κ κ' → LoI κ' np seed i → XJ G (d + 1) (0, 0) MX11_draw (cm τ κ' Md) [(0, .ref (τ 0)), (1, .int (nI n)), (4, .long (lotS np seed i).1), (6, .int (nI i))] [] 34 Q := by
    intro f
    induction f with
    | zero =>
      intro i κ' hif hk hl
      obtain rfl : i = n := by omega
      refine x_iload dX11_draw_34 rfl ?_
      refine x_iload_n dX11_draw_36 rfl rfl ?_
      refine x_icmp_ge (tgt := 154) dX11_draw_37 (by decide) (fun _ => ?_) (fun z => absurd (Int32.le_refl _) z)
      exact x_return dX11_draw_154 rfl (hq κ' hk hl)
    | succ f ih =>
      intro i κ' hif hk hl
      have hin : i < n := by omega
      have hip : i < np := by omega
      obtain ⟨x, j, t, rem, e1, e2, e3, hj, e4, e5, ht, htp, -, -, hlen⟩ := lot_step np seed i hip
      obtain ⟨o1, o2, o3, o4⟩ := lot_ok np seed i (by omega)
      rw [e2] at o2
      have hat : i + j < np := by omega
      have hcla : (nI (i + j)).toNatClampNeg = i + j := nI_clamp (by omega)
      have hcli : (nI i).toNatClampNeg = i := nI_clamp (by omega)
      have hrow : κ'.2 16 (i + j) = nI t := by
        rw [hl (i + j) hat]
        unfold lotR
        rw [getD_app2 (by rw [hlen]; omega), hlen, e2, Nat.add_sub_cancel_left, e4]
      have hleft := lot_left x hip hp2
      have hnz : ¬ (nI np - nI i).toInt64 = 0 := by
        rw [pk_sub (by omega)]
        intro z
        have z2 := congrArg Int64.toInt z
        rw [Int32.toInt_toInt64, nI_toInt (by omega)] at z2
        have : (0 : Int64).toInt = 0 := rfl
        omega
      -- the others are moved up
      have S : ∀ m κ2, m ≤ j → KL κ κ2 → (∀ p, p < np → κ2.2 16 p = if i + m < p ∧ p ≤ i + j then κ'.2 16 (p - 1) else κ'.2 16 p) → XJ G (d + 1) (0, 0) MX11_draw (cm τ κ2 Md) [(0, .ref (τ 0)), (1, .int (nI n)), (4, .long x), (6, .int (nI i)), (8, .int (nI t)), (9, .int (nI (i + m)))] [] 110 Q := by
        intro m
        induction m with
        | zero =>
          intro κ2 _ hk2 hr2
          refine x_iload dX11_draw_110 rfl ?_
          refine x_iload dX11_draw_112 rfl ?_
          refine x_icmp_le (tgt := 139) dX11_draw_114 (by decide) (fun _ => ?_) (fun z => absurd (Int32.le_refl _) z)
          refine x_aload_n dX11_draw_139 rfl rfl ?_
          refine x_getf dX11_draw_140 lf_X11_85 (kc hi kf_0) kv_0_16 ?_
          refine x_iload dX11_draw_143 rfl ?_
          refine x_iload dX11_draw_145 rfl ?_
          refine xk_iast 16 dX11_draw_147 kf_16 rfl hi (vp_in_nI (by omega) (by decide)) hcli ?_
          refine x_iinc (c := 1) dX11_draw_148 rfl (by decide) ?_
          refine x_goto (tgt := 34) dX11_draw_151 (by decide) ?_
          refine x_loc _ (?_ : lle _ _) (ih (i + 1) (seta κ2 16 i (nI t)) (by omega) hk2.a (fun p hp => ?_))
          · rw [e5]
            refine ⟨rfl, rfl, rfl, ?_, trivial⟩
            show some (Value.int (nI i + 1)) = some (Value.int (nI (i + 1)))
            rw [nI_1]
          · rw [seta_eq]
            unfold lotR
            rw [e5]
            show updB (κ2.2 16) i (nI t) p = nI (((lotS np seed i).2.2 ++ [t] ++ rem.eraseIdx j).getD p 0)
            have hl' := fun p hp => hl p hp
            unfold lotR at hl'
            rw [e2] at hl'
            by_cases z : p = i
            · subst z
              rw [updB_eq, getD_app1 (by rw [List.length_append, hlen]; exact Nat.lt_succ_self _), getD_app2 (by omega), hlen, Nat.sub_self]
              rfl
            · rw [updB_ne z, hr2 p hp]
              by_cases y : p < i
              · rw [if_neg (by omega), hl' p hp, getD_app1 (by omega), List.append_assoc, getD_app1 (by omega)]
              · have e9 : ((lotS np seed i).2.2 ++ [t]).length = i + 1 := by rw [List.length_append, hlen]; rfl
                rw [getD_app2 (A := (lotS np seed i).2.2 ++ [t]) (by omega), e9, getD_er]
                by_cases w : i + 0 < p ∧ p ≤ i + j
                · rw [if_pos w, if_pos (by omega), hl' (p - 1) (by omega), getD_app2 (by omega), hlen]
                  congr 2; omega
                · rw [if_neg w, if_neg (by omega), hl' p hp, getD_app2 (by omega), hlen]
                  congr 2; omega
        | succ m ihm =>
          intro κ2 hm hk2 hr2
          have hclm : (nI (i + m)).toNatClampNeg = i + m := nI_clamp (by omega)
          have hclm1 : (nI (i + (m + 1))).toNatClampNeg = i + (m + 1) := nI_clamp (by omega)
          refine x_iload dX11_draw_110 rfl ?_
          refine x_iload dX11_draw_112 rfl ?_
          refine x_icmp_le (tgt := 139) dX11_draw_114 (by decide) (fun z => absurd z (nI_ge (a := i) (b := i + (m + 1)) (by omega) (by omega))) (fun _ => ?_)
          refine x_aload_n dX11_draw_117 rfl rfl ?_
          refine x_getf dX11_draw_118 lf_X11_85 (kc hi kf_0) kv_0_16 ?_
          refine x_iload dX11_draw_121 rfl ?_
          refine x_aload_n dX11_draw_123 rfl rfl ?_
          refine x_getf dX11_draw_124 lf_X11_85 (kc hi kf_0) kv_0_16 ?_
          refine x_iload dX11_draw_127 rfl ?_
          refine x_iconst (v := 1) dX11_draw_129 (by decide) ?_
          refine x_isub dX11_draw_130 ?_
          rw [show i + (m + 1) = i + m + 1 from rfl, nI_pred]
          refine xk_iald 16 dX11_draw_131 kf_16 rfl hi (vp_in_nI (by omega) (by decide)) hclm ?_
          refine xk_iast 16 dX11_draw_132 kf_16 rfl hi (vp_in_nI (by omega) (by decide)) hclm1 ?_
          refine x_iinc (c := -1) dX11_draw_133 rfl (by decide) ?_
          refine x_goto (tgt := 110) dX11_draw_136 (by decide) ?_
          refine x_loc _ (?_ : lle _ _) (ihm (seta κ2 16 (i + (m + 1)) (κ2.2 16 (i + m))) (by omega) hk2.a (fun p hp => ?_))
          · refine ⟨rfl, rfl, rfl, rfl, rfl, ?_, trivial⟩
            show some (Value.int (nI (i + m + 1) + -1)) = some (Value.int (nI (i + m)))
            rw [← Int32.sub_eq_add_neg, nI_pred]
          · rw [seta_eq]
            by_cases z : p = i + (m + 1)
            · subst z
              rw [updB_eq, hr2 (i + m) (by omega), if_neg (by omega), if_pos (by omega)]
              rfl
            · rw [updB_ne z, hr2 p hp]
              by_cases w : i + (m + 1) < p ∧ p ≤ i + j
              · rw [if_pos w, if_pos (by omega)]
              · rw [if_neg w, if_neg (by omega)]
      refine x_iload dX11_draw_34 rfl ?_
      refine x_iload_n dX11_draw_36 rfl rfl ?_
      refine x_icmp_ge (tgt := 154) dX11_draw_37 (by decide) (fun z => absurd z (nI_ge hin (by omega))) (fun _ => ?_)
      refine x_iload dX11_draw_40 rfl ?_
      refine x_aload_n dX11_draw_42 rfl rfl ?_
      refine x_getf dX11_draw_43 lf_X11_10 (kc hi kf_0) kv_0_1 ?_
      refine x_cV0 dX11_draw_46 lv_X11_100 (hD.lc 1 li_1) rfl rfl rfl (c_lsz_1 hD ?_)
      refine x_icmp_ge (tgt := 154) dX11_draw_49 (by decide) (fun z => absurd z (nI_ge (a := i) (b := cn σ 15) (by omega) (by omega))) (fun _ => ?_)
      refine x_iload dX11_draw_52 rfl ?_
      refine x_aload_n dX11_draw_54 rfl rfl ?_
      refine x_getf dX11_draw_55 lf_X11_85 (kc hi kf_0) kv_0_16 ?_
      refine x_alen dX11_draw_58 (by decide) (by decide) (kc hi kf_16) ?_
      refine x_icmp_ge (tgt := 154) dX11_draw_59 (by decide) (fun z => absurd z (nI_ge (a := i) (b := 24) (by omega) (by decide))) (fun _ => ?_)
      refine x_lload dX11_draw_62 rfl ?_
      refine x_ldc2 dX11_draw_64 tb1083 ?_
      refine x_lmul dX11_draw_67 ?_
      refine x_ldc2 dX11_draw_68 tb1084 ?_
      refine x_ladd dX11_draw_71 ?_
      rw [e1]
      refine x_lstore dX11_draw_72 (by decide) ?_
      refine x_iload dX11_draw_74 rfl ?_
      refine x_lload dX11_draw_76 rfl ?_
      refine x_bipush (v := 33) dX11_draw_78 (by decide) ?_
      refine x_lushr dX11_draw_80 ?_
      refine x_aload_n dX11_draw_81 rfl rfl ?_
      refine x_getf dX11_draw_82 lf_X11_10 (kc hi kf_0) kv_0_1 ?_
      refine x_cV0 dX11_draw_85 lv_X11_100 (hD.lc 1 li_1) rfl rfl rfl (c_lsz_1 hD ?_)
      rw [hnp]
      refine x_iload dX11_draw_88 rfl ?_
      refine x_isub dX11_draw_90 ?_
      refine x_i2l dX11_draw_91 ?_
      refine x_lrem dX11_draw_92 hnz ?_
      refine x_l2i dX11_draw_93 ?_
      first | rw [hleft, e3] | skip
      refine x_iadd dX11_draw_94 ?_
      rw [nI_add]
      refine x_istore dX11_draw_95 (by decide) ?_
      refine x_aload_n dX11_draw_97 rfl rfl ?_
      refine x_getf dX11_draw_98 lf_X11_85 (kc hi kf_0) kv_0_16 ?_
      refine x_iload dX11_draw_101 rfl ?_
      refine xk_iald 16 dX11_draw_103 kf_16 rfl hi (vp_in_nI (by omega) (by decide)) hcla ?_
      rw [hrow]
      refine x_istore dX11_draw_104 (by decide) ?_
      refine x_iload dX11_draw_106 rfl ?_
      refine x_istore dX11_draw_108 (by decide) ?_
      refine x_loc _ (?_ : lle _ _) (S j κ' (Nat.le_refl _) hk (fun p hp => by rw [if_neg (by omega)]))
      exact ⟨rfl, rfl, rfl, rfl, rfl, rfl, trivial⟩
  have I : ∀ f i κ', i + f = 24 → KL κ κ' → (∀ p, p < i → κ'.2 16 p = nI p) → XJ G (d + 1) (0, 0) MX11_draw (cm τ κ' Md) [(0, .ref (τ 0)), (1, .int (nI n)), (2, .long seed), (4, .int (nI i))] [] 3 Q := by
    intro f
    induction f with
    | zero =>
      intro i κ' hif hk hl
      obtain rfl : i = 24 := by omega
      refine x_iload dX11_draw_3 rfl ?_
      refine x_aload_n dX11_draw_5 rfl rfl ?_
      refine x_getf dX11_draw_6 lf_X11_85 (kc hi kf_0) kv_0_16 ?_
      refine x_alen dX11_draw_9 (by decide) (by decide) (kc hi kf_16) ?_
      refine x_icmp_ge (tgt := 28) dX11_draw_10 (by decide) (fun _ => ?_) (fun z => absurd (by decide) z)
      refine x_lload_n dX11_draw_28 rfl rfl ?_
      refine x_lstore dX11_draw_29 (by decide) ?_
      refine x_iconst (v := 0) dX11_draw_31 (by decide) ?_
      refine x_istore dX11_draw_32 (by decide) ?_
      refine x_loc _ (?_ : lle _ _) (H n 0 κ' (by omega) hk (fun p hp => ?_))
      · exact ⟨rfl, rfl, rfl, rfl, trivial⟩
      · rw [hl p (by omega)]
        show nI p = nI ((([] : List Nat) ++ List.range np).getD p 0)
        rw [List.nil_append, List.getD_eq_getElem?_getD, List.getElem?_range hp]
        rfl
    | succ f ih =>
      intro i κ' hif hk hl
      have hcli : (nI i).toNatClampNeg = i := nI_clamp (by omega)
      refine x_iload dX11_draw_3 rfl ?_
      refine x_aload_n dX11_draw_5 rfl rfl ?_
      refine x_getf dX11_draw_6 lf_X11_85 (kc hi kf_0) kv_0_16 ?_
      refine x_alen dX11_draw_9 (by decide) (by decide) (kc hi kf_16) ?_
      refine x_icmp_ge (tgt := 28) dX11_draw_10 (by decide) (fun z => absurd z (nI_ge (a := i) (b := 24) (by omega) (by decide))) (fun _ => ?_)
      refine x_aload_n dX11_draw_13 rfl rfl ?_
      refine x_getf dX11_draw_14 lf_X11_85 (kc hi kf_0) kv_0_16 ?_
      refine x_iload dX11_draw_17 rfl ?_
      refine x_iload dX11_draw_19 rfl ?_
      refine xk_iast 16 dX11_draw_21 kf_16 rfl hi (vp_in_nI (by omega) (by decide)) hcli ?_
      refine x_iinc (c := 1) dX11_draw_22 rfl (by decide) ?_
      refine x_goto (tgt := 3) dX11_draw_25 (by decide) ?_
      refine x_loc _ (?_ : lle _ _) (ih (i + 1) (seta κ' 16 i (nI i)) (by omega) hk.a (fun p hp => ?_))
      · refine ⟨rfl, rfl, rfl, ?_, trivial⟩
        show some (Value.int (nI i + 1)) = some (Value.int (nI (i + 1)))
        rw [nI_1]
      · rw [seta_eq]
        by_cases z : p = i
        · subst z; rw [updB_eq]
        · rw [updB_ne z]; exact hl p (by omega)
  refine x_iconst (v := 0) dX11_draw_0 (by decide) ?_
  refine x_istore dX11_draw_1 (by decide) ?_
  refine x_loc _ (?_ : lle _ _) (I 24 0 κ rfl KL.rf (fun p hp => absurd hp (Nat.not_lt_zero p)))
  exact ⟨rfl, rfl, rfl, rfl, trivial⟩
theorem c_X11_lot {n : Int32} {seed : Int64} {i : Int32} (hW : Wld G τ ω ε σ κ Md) (hq : ∀ κ', KL κ κ' → Q (some (.int (aLot σ n seed i))) (cm τ κ' Md)) : CT G (d + 2) (0, 0) MX11_lot [.ref (τ 0), .int n, .long seed, .int i] (cm τ κ Md) Q := by
  have hW' := hW
  obtain ⟨hi, hc, hD, hK⟩ := hW
  obtain ⟨hp1, hp2⟩ := hc.b 15 (b := 24) (by decide)
  refine CT.of rfl (Nat.le_of_ble_eq_true rfl) ?_
  refine x_aload_n dX11_lot_0 rfl rfl ?_
  refine x_iload_n dX11_lot_1 rfl rfl ?_
  refine x_cV1 dX11_lot_2 lv_X11_429 (kc hi kf_0) rfl rfl rfl  (c_X11_isLotSize hW' ?_)
  refine x_if_eq_b (tgt := 20) dX11_lot_5 (by decide) (fun h5 => ?_) (fun h5 => ?_)
  · refine x_iconst (v := -1) dX11_lot_20 (by decide) ?_
    exact x_ireturn dX11_lot_21 rfl rfl (fan_f (hq κ KL.rf) (fun z => by first | exact h5 z.1 | exact h17 z.2))
  · refine x_iload dX11_lot_8 rfl ?_
    refine x_iconst (v := 0) dX11_lot_10 (by decide) ?_
    refine x_iload_n dX11_lot_11 rfl rfl ?_
    refine x_iconst (v := 1) dX11_lot_12 (by decide) ?_
    refine x_isub dX11_lot_13 ?_
    refine x_cS3 dX11_lot_14 ls_X11_92 rfl  (c_X11_isWithin ?_)
    refine x_if_ne_b (tgt := 22) dX11_lot_17 (by decide) (fun h17 => ?_) (fun h17 => ?_)
    · have hq2 := fun κ' hk => fan_t (hq κ' hk) ⟨h5, h17⟩
      obtain ⟨N, hN, rfl⟩ := of_le (n := cn σ 15) (Int32.le_trans (by decide) h5.1) (by rw [← hp1]; exact h5.2) rfl (by omega)
      have hN1 : 1 ≤ N := by
        rcases Nat.eq_zero_or_pos N with y | y
        · rw [y] at h5; exact absurd h5.1 (by decide)
        · exact y
      refine x_aload_n dX11_lot_22 rfl rfl ?_
      refine x_iload_n dX11_lot_23 rfl rfl ?_
      refine x_lload_n dX11_lot_24 rfl rfl ?_
      refine x_cV2 dX11_lot_25 lv_X11_432 (kc hi kf_0) rfl rfl rfl  (c_X11_draw (n := N) hW' hN1 hN ?_)
      intro κ' hk hl
      obtain ⟨j, hj, rfl⟩ := of_lt (n := N) h17.1 ((le_p1 (by omega)).mp h17.2) rfl (by omega)
      have hclj : (nI j).toNatClampNeg = j := nI_clamp (by omega)
      have hq3 := hq2 κ' hk
      rw [nI_clamp (by omega), hclj] at hq3
      have o4 := (lot_ok (cn σ 15) seed N hN).2.2.2
      refine x_aload_n dX11_lot_28 rfl rfl ?_
      refine x_getf dX11_lot_29 lf_X11_85 (kc hi kf_0) kv_0_16 ?_
      refine x_iload dX11_lot_32 rfl ?_
      refine xk_iald 16 dX11_lot_34 kf_16 rfl hi (vp_in_nI (by omega) (by decide)) hclj ?_
      rw [hl j (by omega)]
      exact x_ireturn dX11_lot_35 rfl rfl (by
unfold lotR
rw [getD_app1 (by omega)]
exact hq3)
    · refine x_iconst (v := -1) dX11_lot_20 (by decide) ?_
      exact x_ireturn dX11_lot_21 rfl rfl (fan_f (hq κ KL.rf) (fun z => by first | exact h5 z.1 | exact h17 z.2))
theorem lot_mem (np : Nat) (seed : Int64) {p : Nat} (hp : p < np) : ∀ k, k ≤ np → (p ∈ (lotS np seed k).2.2 ↔ ¬ p ∈ (lotS np seed k).2.1)
  | 0, _ => by
    show p ∈ ([] : List Nat) ↔ ¬ p ∈ List.range np
    exact ⟨fun z => (by cases z), fun z => absurd (List.mem_range.mpr hp) z⟩
  | k + 1, hk => by
    have ih := lot_mem np seed hp k (by omega)
    obtain ⟨x, j, t, rem, e1, e2, e3, hj, e4, e5, ht, htp, -, hpw, hlen⟩ := lot_step np seed k hk
    rw [e2] at ih
    rw [e5]
    show p ∈ (lotS np seed k).2.2 ++ [t] ↔ ¬ p ∈ rem.eraseIdx j
    rw [List.mem_append, List.mem_singleton, mem_erase_at hpw hj, e4, ih]
    constructor
    · rintro (z | z) y
      · exact z y.1
      · exact y.2 z
    · intro z
      by_cases y : p ∈ rem
      · exact Or.inr (Classical.byContradiction fun w => z ⟨y, w⟩)
      · exact Or.inl y
theorem c_X11_isDrawn {n p : Nat} {seed : Int64} (hi : adOK τ) (hn : n ≤ cn σ 15) (hnp : cn σ 15 ≤ 24) (hp : p < cn σ 15) (hl : LoI κ (cn σ 15) seed n) (hq : Q (some (.int (bI (¬ p ∈ (lotS (cn σ 15) seed n).2.1)))) (cm τ κ Md)) : CT G d (0, 0) MX11_isDrawn [.ref (τ 0), .int (nI p), .int (nI n)] (cm τ κ Md) Q := by
  have o4 := (lot_ok (cn σ 15) seed n hn).2.2.2
  have o3 := (lot_ok (cn σ 15) seed n hn).2.2.1
  have hm := lot_mem (cn σ 15) seed hp n hn
  rw [← bI_c hm] at hq
  refine CT.of rfl (Nat.le_of_ble_eq_true rfl) ?_
  have hrow : ∀ i, i < n → κ.2 16 i = nI ((lotS (cn σ 15) seed n).2.2.getD i 0) := fun i hi => by
    rw [hl i (by omega)]
    unfold lotR
    rw [getD_app1 (by omega)]
  have hbd : ∀ y ∈ (lotS (cn σ 15) seed n).2.2, y < 2 ^ 31 := by
    have : ∀ k, k ≤ cn σ 15 → ∀ y ∈ (lotS (cn σ 15) seed k).2.2, y < cn σ 15 := by
      intro k
      induction k with
      | zero => intro _ y hy; cases hy
      | succ k ih =>
        intro hk y hy
        obtain ⟨x, j, t, rem, e1, e2, e3, hj, e4, e5, ht, htp, -, hpw, hlen⟩ := lot_step (cn σ 15) seed k hk
        rw [e5] at hy
        rcases List.mem_append.mp hy with z | z
        · exact ih (by omega) y z
        · rw [List.mem_singleton.mp z]; exact htp
    intro y hy
    have := this n hn y hy
    omega
  refine x_iconst (v := 0) dX11_isDrawn_0 (by decide) ?_
  refine x_istore_n dX11_isDrawn_1 rfl (by decide) ?_
  refine x_loc [(0, .ref (τ 0)), (1, .int (nI p)), (2, .int (nI n)), (3, .int (nI 0))] ⟨rfl, rfl, rfl, rfl, trivial⟩ ?_
  suffices H : ∀ f i, i + f = n → (∀ t, t < i → ¬ (lotS (cn σ 15) seed n).2.2.getD t 0 = p) → XJ G d (0, 0) MX11_isDrawn (cm τ κ Md) [(0, .ref (τ 0)), (1, .int (nI p)), (2, .int (nI n)), (3, .int (nI i))] [] 2 Q from H n 0 (by omega) (fun t ht => absurd ht (Nat.not_lt_zero t))
  intro f
  induction f with
  | zero =>
    intro i hif hall
    obtain rfl : i = n := by omega
    refine x_iload_n dX11_isDrawn_2 rfl rfl ?_
    refine x_iload_n dX11_isDrawn_3 rfl rfl ?_
    refine x_icmp_ge (tgt := 34) dX11_isDrawn_4 (by decide) (fun _ => ?_) (fun z => absurd (Int32.le_refl _) z)
    refine x_iconst (v := 0) dX11_isDrawn_34 (by decide) ?_
    exact x_ireturn dX11_isDrawn_35 rfl rfl (fin hq (bI_f (fun z => by
obtain ⟨t, ht, e⟩ := List.getElem_of_mem z
refine hall t (by omega) ?_
rw [List.getD_eq_getElem?_getD, List.getElem?_eq_getElem ht]; exact e)))
  | succ f ih =>
    intro i hif hall
    have hlt : i < n := by omega
    have hcli : (nI i).toNatClampNeg = i := nI_clamp (by omega)
    have hmi : (lotS (cn σ 15) seed n).2.2.getD i 0 ∈ (lotS (cn σ 15) seed n).2.2 := by
      rw [List.getD_eq_getElem?_getD, List.getElem?_eq_getElem (by omega)]
      exact List.getElem_mem _
    have hbi := hbd _ hmi
    refine x_iload_n dX11_isDrawn_2 rfl rfl ?_
    refine x_iload_n dX11_isDrawn_3 rfl rfl ?_
    refine x_icmp_ge (tgt := 34) dX11_isDrawn_4 (by decide) (fun z => absurd z (nI_ge hlt (by omega))) (fun _ => ?_)
    refine x_iload_n dX11_isDrawn_7 rfl rfl ?_
    refine x_aload_n dX11_isDrawn_8 rfl rfl ?_
    refine x_getf dX11_isDrawn_9 lf_X11_85 (kc hi kf_0) kv_0_16 ?_
    refine x_alen dX11_isDrawn_12 (by decide) (by decide) (kc hi kf_16) ?_
    refine x_icmp_ge (tgt := 34) dX11_isDrawn_13 (by decide) (fun z => absurd z (nI_ge (a := i) (b := 24) (by omega) (by decide))) (fun _ => ?_)
    refine x_aload_n dX11_isDrawn_16 rfl rfl ?_
    refine x_getf dX11_isDrawn_17 lf_X11_85 (kc hi kf_0) kv_0_16 ?_
    refine x_iload_n dX11_isDrawn_20 rfl rfl ?_
    refine xk_iald 16 dX11_isDrawn_21 kf_16 rfl hi (vp_in_nI (by omega) (by decide)) hcli ?_
    rw [hrow i hlt]
    refine x_iload_n dX11_isDrawn_22 rfl rfl ?_
    refine x_icmp_ne (tgt := 28) dX11_isDrawn_23 (by decide) (fun h23 => ?_) (fun h23 => ?_)
    · refine x_iinc (c := 1) dX11_isDrawn_28 rfl (by decide) ?_
      refine x_goto (tgt := 2) dX11_isDrawn_31 (by decide) ?_
      refine x_loc _ (?_ : lle _ _) (ih (i + 1) (by omega) (fun t ht => ?_))
      · refine ⟨rfl, rfl, rfl, ?_, trivial⟩
        show some (Value.int (nI i + 1)) = some (Value.int (nI (i + 1)))
        rw [nI_1]
      · by_cases e : t = i
        · subst e; exact fun z => h23 (by rw [z])
        · exact hall t (by omega)
    · refine x_iconst (v := 1) dX11_isDrawn_26 (by decide) ?_
      exact x_ireturn dX11_isDrawn_27 rfl rfl (fin hq (bI_t (by
have e : (lotS (cn σ 15) seed n).2.2.getD i 0 = p := (nI_eq hbi (by omega)).mp (by first | exact h23 | exact Classical.byContradiction h23)
rw [← e]; exact hmi)))
theorem spBes_s (σ : MS) (day : Int32) (rem : List Nat) (n : Nat) : spBes σ day rem (n + 1) = if σ.2 9 n = day ∧ ¬ (σ.2 8 n).toNatClampNeg ∈ rem then spBes σ day rem n + σ.2 11 n else spBes σ day rem n := rfl
/-- no line was told later than now -/
def TolB (σ : MS) : Prop := ∀ l, l < cn σ 16 → σ.2 14 l ≤ σ.1 1
theorem c_X11_beside {n : Int32} {seed : Int64} {day : Int32} (hW : Wld G τ ω ε σ κ Md) (hL : LinP σ) (hT : TolB σ) (hq : ∀ κ', KL κ κ' → Q (some (.int (aBes σ n seed day))) (cm τ κ' Md)) : CT G (d + 4) (0, 0) MX11_beside [.ref (τ 0), .int n, .long seed, .int day] (cm τ κ Md) Q := by
  have hW' := hW
  obtain ⟨hi, hc, hD, hK⟩ := hW
  obtain ⟨hp1, hp2⟩ := hc.b 15 (b := 24) (by decide)
  obtain ⟨hl1, hl2⟩ := hc.b 16 (b := 200) (by decide)
  refine CT.of rfl (Nat.le_of_ble_eq_true rfl) ?_
  refine x_aload_n dX11_beside_0 rfl rfl ?_
  refine x_iload_n dX11_beside_1 rfl rfl ?_
  refine x_cV1 dX11_beside_2 lv_X11_429 (kc hi kf_0) rfl rfl rfl  (c_X11_isLotSize hW' ?_)
  refine x_if_eq_b (tgt := 21) dX11_beside_5 (by decide) (fun h5 => ?_) (fun h5 => ?_)
  · refine x_ldcw dX11_beside_21 tb865 ?_
    exact x_ireturn dX11_beside_24 rfl rfl (fan_f (hq κ KL.rf) (fun z => by first | exact h5 z.2 | exact h18 z.1))
  · refine x_iload dX11_beside_8 rfl ?_
    refine x_iconst (v := 0) dX11_beside_10 (by decide) ?_
    refine x_aload_n dX11_beside_11 rfl rfl ?_
    refine x_getf dX11_beside_12 lf_X11_88 (kc hi kf_0) kv_0_0 ?_
    rw [hK.1]
    refine x_cS3 dX11_beside_15 ls_X11_92 rfl  (c_X11_isWithin ?_)
    refine x_if_ne_b (tgt := 25) dX11_beside_18 (by decide) (fun h18 => ?_) (fun h18 => ?_)
    · have hq2 := fun κ' hk => fan_t (hq κ' hk) ⟨h18, h5⟩
      obtain ⟨N, hN, rfl⟩ := of_le (n := cn σ 15) (Int32.le_trans (by decide) h5.1) (by rw [← hp1]; exact h5.2) rfl (by omega)
      have hN1 : 1 ≤ N := by
        rcases Nat.eq_zero_or_pos N with y | y
        · rw [y] at h5; exact absurd h5.1 (by decide)
        · exact y
      refine x_aload_n dX11_beside_25 rfl rfl ?_
      refine x_iload_n dX11_beside_26 rfl rfl ?_
      refine x_lload_n dX11_beside_27 rfl rfl ?_
      refine x_cV2 dX11_beside_28 lv_X11_432 (kc hi kf_0) rfl rfl rfl  (c_X11_draw (n := N) hW' hN1 hN ?_)
      intro κ' hk hl
      have hq3 := hq2 κ' hk
      rw [nI_clamp (by omega)] at hq3
      have hK2 := Kap_KL hk hK
      refine x_iconst (v := 0) dX11_beside_31 (by decide) ?_
      refine x_istore dX11_beside_32 (by decide) ?_
      refine x_iconst (v := 0) dX11_beside_34 (by decide) ?_
      refine x_istore dX11_beside_35 (by decide) ?_
      refine x_loc [(0, .ref (τ 0)), (1, .int (nI N)), (4, .int day), (5, .int (spBes σ day (lotS (cn σ 15) seed N).2.1 0)), (6, .int (nI 0))] ⟨rfl, rfl, rfl, rfl, rfl, trivial⟩ ?_
      refine loop_up (P := fun i => XJ G (d + 4) (0, 0) MX11_beside (cm τ κ' Md) [(0, .ref (τ 0)), (1, .int (nI N)), (4, .int day), (5, .int (spBes σ day (lotS (cn σ 15) seed N).2.1 i)), (6, .int (nI i))] [] 37 Q) (n := cn σ 16) ?_ ?_ 0 (Nat.zero_le _)
      · refine x_iload dX11_beside_37 rfl ?_
        refine x_aload_n dX11_beside_39 rfl rfl ?_
        refine x_getf dX11_beside_40 lf_X11_16 (kc hi kf_0) kv_0_2 ?_
        refine x_cV0 dX11_beside_43 lv_X11_100 (hD.lc 2 li_2) rfl rfl rfl (c_lsz_2 hD ?_)
        refine x_icmp_ge (tgt := 109) dX11_beside_46 (by decide) (fun _ => ?_) (fun z => absurd (loopT rfl) z)
        refine x_iload dX11_beside_109 rfl ?_
        exact x_ireturn dX11_beside_111 rfl rfl (hq3)
      · intro i hlt ih
        obtain ⟨pj, hpj, hpe⟩ := of_lt (hL i hlt).1 (hL i hlt).2 hp1 (by omega)
        have hclp : (nI pj).toNatClampNeg = pj := nI_clamp (by omega)
        have es := spBes_s σ day (lotS (cn σ 15) seed N).2.1 i
        rw [hpe, hclp] at es
        refine x_iload dX11_beside_37 rfl ?_
        refine x_aload_n dX11_beside_39 rfl rfl ?_
        refine x_getf dX11_beside_40 lf_X11_16 (kc hi kf_0) kv_0_2 ?_
        refine x_cV0 dX11_beside_43 lv_X11_100 (hD.lc 2 li_2) rfl rfl rfl (c_lsz_2 hD ?_)
        refine x_icmp_ge (tgt := 109) dX11_beside_46 (by decide) (fun z => absurd z (loopF rfl hlt (by omega))) (fun _ => ?_)
        refine x_aload_n dX11_beside_49 rfl rfl ?_
        refine x_getf dX11_beside_50 lf_X11_16 (kc hi kf_0) kv_0_2 ?_
        refine x_iload dX11_beside_53 rfl ?_
        refine x_cV1 dX11_beside_55 lv_X11_126 (hD.lc 2 li_2) rfl rfl rfl (c_lget (k := 2) hD li_2 hlt ?_)
        refine x_cast (q := (_, _, _)) dX11_beside_58 (show vwCl[2]? = some _ from rfl) tb367 (ob_2 hD hlt) ?_
        refine x_astore dX11_beside_61 (by decide) ?_
        refine x_aload dX11_beside_63 rfl ?_
        refine x_iload dX11_beside_65 rfl ?_
        refine x_aload_n dX11_beside_67 rfl rfl ?_
        refine x_getf dX11_beside_68 lf_X11_88 (kc hi kf_0) kv_0_0 ?_
        rw [hK2.1]
        refine x_cV2 dX11_beside_71 lv_X11_264 (ob_2 hD hlt) rfl rfl rfl  (c_X1_isFor hD hlt ?_)
        refine x_if_eq_b (tgt := 103) dX11_beside_74 (by decide) (fun h74 => ?_) (fun h74 => ?_)
        · refine x_iinc (c := 1) dX11_beside_103 rfl (by decide) ?_
          refine x_goto (tgt := 37) dX11_beside_106 (by decide) ?_
          refine x_loc _ (?_ : lle _ _) ih
          refine ⟨rfl, rfl, rfl, ?_, ?_, trivial⟩
          · show some (Value.int _) = some (Value.int _)
            rw [es]
            first
            | rw [if_neg (fun z => h74 ⟨z.1, hT i hlt⟩)]
            | (have hz : ¬ pj ∈ (lotS (cn σ 15) seed N).2.1 := h90; rw [if_pos ⟨h74.1, hz⟩])
            | (have hz : ¬ ¬ pj ∈ (lotS (cn σ 15) seed N).2.1 := h90; rw [if_neg (fun z => hz z.2)])
          · show some (Value.int _) = some (Value.int (nI (i + 1)))
            rw [← nI_1]
        · refine x_aload_n dX11_beside_77 rfl rfl ?_
          refine x_aload dX11_beside_78 rfl ?_
          refine x_getf dX11_beside_80 lf_X11_243 (ob_2 hD hlt) ov_2_0 ?_
          refine x_getf dX11_beside_83 lf_X11_309 (ob_1 hD (hD.wr hlt)) (ov_w hD hlt) ?_
          rw [hpe]
          refine x_iload_n dX11_beside_86 rfl rfl ?_
          refine x_cV2 dX11_beside_87 lv_X11_440 (kc hi kf_0) rfl rfl rfl  (c_X11_isDrawn hi hN hp2 hpj hl ?_)
          refine x_if_eq_b (tgt := 103) dX11_beside_90 (by decide) (fun h90 => ?_) (fun h90 => ?_)
          · refine x_iinc (c := 1) dX11_beside_103 rfl (by decide) ?_
            refine x_goto (tgt := 37) dX11_beside_106 (by decide) ?_
            refine x_loc _ (?_ : lle _ _) ih
            refine ⟨rfl, rfl, rfl, ?_, ?_, trivial⟩
            · show some (Value.int _) = some (Value.int _)
              rw [es]
              first
              | rw [if_neg (fun z => h74 ⟨z.1, hT i hlt⟩)]
              | (have hz : ¬ pj ∈ (lotS (cn σ 15) seed N).2.1 := h90; rw [if_pos ⟨h74.1, hz⟩])
              | (have hz : ¬ ¬ pj ∈ (lotS (cn σ 15) seed N).2.1 := h90; rw [if_neg (fun z => hz z.2)])
            · show some (Value.int _) = some (Value.int (nI (i + 1)))
              rw [← nI_1]
          · refine x_iload dX11_beside_93 rfl ?_
            refine x_aload dX11_beside_95 rfl ?_
            refine x_getf dX11_beside_97 lf_X11_250 (ob_2 hD hlt) ov_2_3 ?_
            refine x_iadd dX11_beside_100 ?_
            refine x_istore dX11_beside_101 (by decide) ?_
            refine x_iinc (c := 1) dX11_beside_103 rfl (by decide) ?_
            refine x_goto (tgt := 37) dX11_beside_106 (by decide) ?_
            refine x_loc _ (?_ : lle _ _) ih
            refine ⟨rfl, rfl, rfl, ?_, ?_, trivial⟩
            · show some (Value.int _) = some (Value.int _)
              rw [es]
              first
              | rw [if_neg (fun z => h74 ⟨z.1, hT i hlt⟩)]
              | (have hz : ¬ pj ∈ (lotS (cn σ 15) seed N).2.1 := h90; rw [if_pos ⟨h74.1, hz⟩])
              | (have hz : ¬ ¬ pj ∈ (lotS (cn σ 15) seed N).2.1 := h90; rw [if_neg (fun z => hz z.2)])
            · show some (Value.int _) = some (Value.int (nI (i + 1)))
              rw [← nI_1]
    · refine x_ldcw dX11_beside_21 tb865 ?_
      exact x_ireturn dX11_beside_24 rfl rfl (fan_f (hq κ KL.rf) (fun z => by first | exact h5 z.2 | exact h18 z.1))
end CLI
