/-! the class, 28: digest, left -/
section PCD
variable {G : Gam} {d : Nat} {τ : Nat → Nat} {ω : Nat → Nat → Nat} {ε : Nat → Nat} {σ κ : MS} {Md : Mem} {M : Mem} {Q : Option Value → Mem → Prop} {k : Nat}
theorem c_X11_digestSize {day rank q : Int32} (hW : Wld G τ ω ε σ κ Md) (hl : RLit G) (hC : CdI σ) (hq : ∀ κ', KX κ κ' → Q (some (.int (digM σ day rank q))) (cm τ κ' Md)) : CT G (d + 7) (0, 0) MX11_digestSize [.ref (τ 0), .int day, .int rank, .int (spRule σ day q (cn σ 25))] (cm τ κ Md) Q := by
  have hW0 := hW
  obtain ⟨hi, hc, hD, hK⟩ := hW
  refine CT.of rfl (Nat.le_of_ble_eq_true rfl) ?_
  refine x_aload_n dX11_digestSize_0 rfl rfl ?_
  refine x_getf dX11_digestSize_1 lf_X11_71 (kc hi kf_0) kv_0_13 ?_
  refine x_iconst (v := 0) dX11_digestSize_4 (by decide) ?_
  refine x_cS2 dX11_digestSize_5 ls_X11_216 rfl  (c_J7_fill (r := 13) (n := 8) hi kf_13 rfl (by decide) ?_)
  refine x_aload_n dX11_digestSize_8 rfl rfl ?_
  refine x_getf dX11_digestSize_9 lf_X11_71 (kc hi kf_0) kv_0_13 ?_
  refine x_iconst (v := 3) dX11_digestSize_12 (by decide) ?_
  refine x_iload_n dX11_digestSize_13 rfl rfl ?_
  refine xk_iast 13 dX11_digestSize_14 kf_13 rfl hi (vp_in_nI (n := 3) (N := 8) (by decide) (by decide)) rfl ?_
  refine x_aload_n dX11_digestSize_15 rfl rfl ?_
  refine x_getf dX11_digestSize_16 lf_X11_71 (kc hi kf_0) kv_0_13 ?_
  refine x_bipush (v := 7) dX11_digestSize_19 (by decide) ?_
  refine x_iload_n dX11_digestSize_21 rfl rfl ?_
  refine xk_iast 13 dX11_digestSize_22 kf_13 rfl hi (vp_in_nI (n := 7) (N := 8) (by decide) (by decide)) rfl ?_
  refine x_iconst (v := 0) dX11_digestSize_23 (by decide) ?_
  refine x_bipush (v := 20) dX11_digestSize_24 (by decide) ?_
  refine x_aload_n dX11_digestSize_26 rfl rfl ?_
  refine x_bipush (v := 100) dX11_digestSize_27 (by decide) ?_
  refine x_iload_n dX11_digestSize_29 rfl rfl ?_
  refine x_cV2 dX11_digestSize_30 lv_X11_212 (kc hi kf_0) rfl rfl rfl  (c_X11_worthOf (Wld_KX (((KX.rf.f).a).a) hW0) hl hC (LtK_of (((Lr_0 (κ := κ)).st (i := 3) (v := day) (by decide)).st (i := 7) (v := rank) (by decide))) (fun κ2 hk2 => ?_))
  refine x_cS2 dX11_digestSize_33 ls_X11_274 rfl  (c_J9_min_7cf53 ?_)
  refine x_cS2 dX11_digestSize_36 ls_X11_279 rfl  (c_J9_max_7cf53 ?_)
  exact x_ireturn dX11_digestSize_39 rfl rfl ((by
have h := hq κ2 ((((KX.rf.f).a).a).tr hk2)
unfold digM clip at h
exact h))
theorem pd_loop {of' day rank q : Int32} {m : Nat} (hW : Wld G τ ω ε σ κ Md) (hl : RLit G) (hC : CdI σ) (hP : LinP σ) (hm : m ≤ 20)
    (K : ∀ κ', KD κ κ' → (∀ k, k < min m (digS σ of' day rank q (cn σ 16)).1.length → κ'.2 15 k = nI ((digS σ of' day rank q (cn σ 16)).1.getD k 0)) → Q (some (.int (nI (min m (digS σ of' day rank q (cn σ 16)).1.length)))) (cm τ κ' Md)) :
    ∀ (f i : Nat) (κ1 : MS), i + f = cn σ 16 → KD κ κ1 → (∀ k, k < min m (digS σ of' day rank q i).1.length → κ1.2 15 k = nI ((digS σ of' day rank q i).1.getD k 0)) → XJ G (d + 8) (0, 0) MX11_pickDigest (cm τ κ1 Md) [(0, .ref (τ 0)), (1, .int of'), (2, .int day), (3, .int rank), (4, .int q), (5, .int (spRule σ day q (cn σ 25))), (6, .int (nI m)), (7, .int (nI (min m (digS σ of' day rank q i).1.length))), (8, .int (nI i))] [] 25 Q := by
  have hW0 := hW
  obtain ⟨hi, hc, hD, hK⟩ := hW
  obtain ⟨e1, e2⟩ := hc.b 16 (b := 200) (by decide)
  intro f
  induction f with
  | zero =>
    intro i κ1 hfi hk hrow
    obtain rfl : i = cn σ 16 := by omega
    refine x_iload dX11_pickDigest_25 rfl ?_
    refine x_aload_n dX11_pickDigest_27 rfl rfl ?_
    refine x_getf dX11_pickDigest_28 lf_X11_16 (kc hi kf_0) kv_0_2 ?_
    refine x_cV0 dX11_pickDigest_31 lv_X11_100 (hD.lc 2 li_2) rfl rfl rfl (c_lsz_2 hD ?_)
    refine x_icmp_ge (tgt := 93) dX11_pickDigest_34 (by decide) (fun _ => ?_) (fun z => absurd (Int32.le_refl _) z)
    refine x_iload dX11_pickDigest_93 rfl ?_
    exact x_ireturn dX11_pickDigest_95 rfl rfl (K κ1 hk hrow)
  | succ f ih =>
    intro i κ1 hfi hk hrow
    have hlt : i < cn σ 16 := by omega
    obtain ⟨hs1, hs2⟩ := digS_ok σ of' day rank q i
    have hnx : ∀ κ2 s, digS σ of' day rank q (i + 1) = s → KD κ κ2 → (∀ k, k < min m s.1.length → κ2.2 15 k = nI (s.1.getD k 0)) → XJ G (d + 8) (0, 0) MX11_pickDigest (cm τ κ2 Md) [(0, .ref (τ 0)), (1, .int of'), (2, .int day), (3, .int rank), (4, .int q), (5, .int (spRule σ day q (cn σ 25))), (6, .int (nI m)), (7, .int (nI (min m s.1.length))), (8, .int (nI i))] [] 87 Q := by
      intro κ2 s hs hk2 hrow2
      subst hs
      refine x_iinc (c := 1) dX11_pickDigest_87 rfl (by decide) ?_
      refine x_goto (tgt := 25) dX11_pickDigest_90 (by decide) ?_
      refine x_loc _ (?_ : lle _ _) (ih (i + 1) κ2 (by omega) hk2 hrow2)
      refine ⟨rfl, rfl, rfl, rfl, rfl, rfl, rfl, rfl, ?_, trivial⟩
      show some (Value.int (nI i + 1)) = some (Value.int (nI (i + 1)))
      rw [nI_1]
    refine x_iload dX11_pickDigest_25 rfl ?_
    refine x_aload_n dX11_pickDigest_27 rfl rfl ?_
    refine x_getf dX11_pickDigest_28 lf_X11_16 (kc hi kf_0) kv_0_2 ?_
    refine x_cV0 dX11_pickDigest_31 lv_X11_100 (hD.lc 2 li_2) rfl rfl rfl (c_lsz_2 hD ?_)
    refine x_icmp_ge (tgt := 93) dX11_pickDigest_34 (by decide) (fun z => absurd z (nI_ge hlt (by omega))) (fun _ => ?_)
    refine x_aload_n dX11_pickDigest_37 rfl rfl ?_
    refine x_getf dX11_pickDigest_38 lf_X11_16 (kc hi kf_0) kv_0_2 ?_
    refine x_iload dX11_pickDigest_41 rfl ?_
    refine x_cV1 dX11_pickDigest_43 lv_X11_126 (hD.lc 2 li_2) rfl rfl rfl (c_lget (k := 2) hD li_2 hlt ?_)
    refine x_cast (q := (_, _, _)) dX11_pickDigest_46 (show vwCl[2]? = some _ from rfl) tb367 (ob_2 hD hlt) ?_
    refine x_astore dX11_pickDigest_49 (by decide) ?_
    refine x_aload dX11_pickDigest_51 rfl ?_
    refine x_iload_n dX11_pickDigest_53 rfl rfl ?_
    refine x_iload dX11_pickDigest_54 rfl ?_
    refine x_cV2 dX11_pickDigest_56 lv_X11_264 (ob_2 hD hlt) rfl rfl rfl  (c_X1_isFor hD hlt ?_)
    refine x_if_eq_b (tgt := 87) dX11_pickDigest_59 (by decide) (fun h59 => ?_) (fun h59 => ?_)
    · first
      | (have hs : digS σ of' day rank q (i + 1) = digS σ of' day rank q i := by rw [digS_s, cI_f h59]
         refine x_loc _ (?_ : lle _ _) (hnx κ1 _ hs hk hrow)
         exact ⟨rfl, rfl, rfl, rfl, rfl, rfl, rfl, rfl, rfl, trivial⟩)
    · refine x_aload_n dX11_pickDigest_62 rfl rfl ?_
      refine x_aload dX11_pickDigest_63 rfl ?_
      refine x_iload_n dX11_pickDigest_65 rfl rfl ?_
      refine x_iload_n dX11_pickDigest_66 rfl rfl ?_
      refine x_iload dX11_pickDigest_67 rfl ?_
      refine x_cV4 dX11_pickDigest_69 lv_X11_239 (kc hi kf_0) rfl rfl rfl  (c_X11_mayBeShown (Wld_KD hk hW0) hl hC hP hlt (fun κ2 hk2 => ?_))
      have hrow2 : ∀ k, k < min m (digS σ of' day rank q i).1.length → κ2.2 15 k = nI ((digS σ of' day rank q i).1.getD k 0) := fun k h => by
        rw [hk2.2 15 (by decide) (by decide)]; exact hrow k h
      have hkk : KD κ κ2 := hk.tr (KD.x hk2)
      refine x_if_eq_b (tgt := 87) dX11_pickDigest_72 (by decide) (fun h72 => ?_) (fun h72 => ?_)
      · have hs : digS σ of' day rank q (i + 1) = ((digS σ of' day rank q i).1, (digS σ of' day rank q i).2 + 1) := by rw [digS_s, cI_t h59, cI_f h72]
        refine x_loc _ (?_ : lle _ _) (hnx κ2 _ hs hkk hrow2)
        exact ⟨rfl, rfl, rfl, rfl, rfl, rfl, rfl, rfl, rfl, trivial⟩
      · refine x_aload_n dX11_pickDigest_75 rfl rfl ?_
        refine x_iload dX11_pickDigest_76 rfl ?_
        refine x_iload dX11_pickDigest_78 rfl ?_
        refine x_iload dX11_pickDigest_80 rfl ?_
        refine x_cV3 dX11_pickDigest_82 lv_X11_271 (kc hi kf_0) rfl rfl rfl  (c_X11_insertPick (d := d + 3) (Wld_KD hkk hW0) hm hlt (fun y hy => Nat.lt_trans (hs2 y hy) hlt) (digS_srt σ of' day rank q i) hrow2 (fun κ3 hk3 hrow3 => ?_))
        have hs : digS σ of' day rank q (i + 1) = (insB (keyM σ) i (digS σ of' day rank q i).1, (digS σ of' day rank q i).2 + 1) := by rw [digS_s, cI_t h59, cI_t h72]
        have hkk3 : KD κ κ3 := hkk.tr hk3
        refine x_istore dX11_pickDigest_85 (by decide) ?_
        refine x_loc _ (?_ : lle _ _) (hnx κ3 _ hs hkk3 hrow3)
        exact ⟨rfl, rfl, rfl, rfl, rfl, rfl, rfl, rfl, rfl, trivial⟩
theorem digC_min {σ : MS} {of' day rank q : Int32} {m : Nat} (hm : m ≤ 20) (hn : cn σ 16 ≤ 200) (e : digM σ day rank q = nI m) : digC σ of' day rank q = nI (min m (digS σ of' day rank q (cn σ 16)).1.length) := by
  have hs := (digS_ok σ of' day rank q (cn σ 16)).1
  unfold digC
  rw [e]
  by_cases h : m < (digS σ of' day rank q (cn σ 16)).1.length
  · rw [if_pos ((nI_ltI (by omega) (by omega)).mpr h), Nat.min_eq_left (by omega)]
  · rw [if_neg (fun z => h ((nI_ltI (by omega) (by omega)).mp z)), Nat.min_eq_right (by omega)]
theorem c_X11_pickDigest {of' day rank q : Int32} (hW : Wld G τ ω ε σ κ Md) (hl : RLit G) (hC : CdI σ) (hR : RulD σ) (hP : LinP σ) (hq : ∀ κ', KD κ κ' → (∀ j, digC σ of' day rank q = nI j → j ≤ 20 → ∀ k, k < j → κ'.2 15 k = nI ((digS σ of' day rank q (cn σ 16)).1.getD k 0)) → Q (some (.int (digC σ of' day rank q))) (cm τ κ' Md)) : CT G (d + 8) (0, 0) MX11_pickDigest [.ref (τ 0), .int of', .int day, .int rank, .int q] (cm τ κ Md) Q := by
  have hW0 := hW
  obtain ⟨hi, hc, hD, hK⟩ := hW
  obtain ⟨e1, e2⟩ := hc.b 16 (b := 200) (by decide)
  obtain ⟨m, hm, em⟩ : ∃ m : Nat, m ≤ 20 ∧ digM σ day rank q = nI m := clip_n _
  refine CT.of rfl (Nat.le_of_ble_eq_true rfl) ?_
  refine x_aload_n dX11_pickDigest_0 rfl rfl ?_
  refine x_iload_n dX11_pickDigest_1 rfl rfl ?_
  refine x_iload dX11_pickDigest_2 rfl ?_
  refine x_cV2 dX11_pickDigest_4 lv_X11_197 (kc hi kf_0) rfl rfl rfl  (c_X11_ruleInForce hW0 hR ?_)
  refine x_istore dX11_pickDigest_7 (by decide) ?_
  refine x_aload_n dX11_pickDigest_9 rfl rfl ?_
  refine x_iload_n dX11_pickDigest_10 rfl rfl ?_
  refine x_iload_n dX11_pickDigest_11 rfl rfl ?_
  refine x_iload dX11_pickDigest_12 rfl ?_
  refine x_cV3 dX11_pickDigest_14 lv_X11_267 (kc hi kf_0) rfl rfl rfl  (c_X11_digestSize hW0 hl hC (fun κ1 hk1 => ?_))
  refine x_istore dX11_pickDigest_17 (by decide) ?_
  refine x_iconst (v := 0) dX11_pickDigest_19 (by decide) ?_
  refine x_istore dX11_pickDigest_20 (by decide) ?_
  refine x_iconst (v := 0) dX11_pickDigest_22 (by decide) ?_
  refine x_istore dX11_pickDigest_23 (by decide) ?_
  refine x_loc _ (?_ : lle _ _) (pd_loop (d := d) (of' := of') (day := day) (rank := rank) (q := q) (Wld_KX hk1 hW0) hl hC hP hm (fun κ' hk hrow => ?_) (cn σ 16) 0 κ1 (by omega) KD.rf (fun k hk => by have h2 : k < min m 0 := hk; omega))
  · refine ⟨rfl, rfl, rfl, rfl, rfl, rfl, ?_, ?_, rfl, trivial⟩
    · rw [← em]; rfl
    · show some (Value.int 0) = some (Value.int (nI (min m 0)))
      rw [Nat.min_zero]; rfl
  · have ec := digC_min (of' := of') hm e2 em
    have h := hq κ' ((KD.x hk1).tr hk) (fun j hj hj2 k hk2 => hrow k (by
      rw [ec] at hj
      have := (nI_eq (by omega) (by omega)).mp hj
      omega))
    rw [ec] at h
    exact h
theorem c_X11_digest {of' day rank q i : Int32} (hW : Wld G τ ω ε σ κ Md) (hl : RLit G) (hC : CdI σ) (hR : RulD σ) (hP : LinP σ) (hq : ∀ κ', KD κ κ' → Q (some (.int (aDig σ of' day rank q i))) (cm τ κ' Md)) : CT G (d + 9) (0, 0) MX11_digest [.ref (τ 0), .int of', .int day, .int rank, .int q, .int i] (cm τ κ Md) Q := by
  have hW0 := hW
  obtain ⟨hi, hc, hD, hK⟩ := hW
  obtain ⟨e1, e2⟩ := hc.b 16 (b := 200) (by decide)
  unfold aDig at hq
  refine CT.of rfl (Nat.le_of_ble_eq_true rfl) ?_
  refine x_aload_n dX11_digest_0 rfl rfl ?_
  refine x_iload_n dX11_digest_1 rfl rfl ?_
  refine x_iload_n dX11_digest_2 rfl rfl ?_
  refine x_iload_n dX11_digest_3 rfl rfl ?_
  refine x_iload dX11_digest_4 rfl ?_
  refine x_cV4 dX11_digest_6 lv_X11_253 (kc hi kf_0) rfl rfl rfl  (c_X11_isDigest hW0 ?_)
  refine x_if_ne_b (tgt := 14) dX11_digest_9 (by decide) (fun h9 => ?_) (fun h9 => ?_)
  · refine x_aload_n dX11_digest_14 rfl rfl ?_
    refine x_iload_n dX11_digest_15 rfl rfl ?_
    refine x_iload_n dX11_digest_16 rfl rfl ?_
    refine x_iload_n dX11_digest_17 rfl rfl ?_
    refine x_iload dX11_digest_18 rfl ?_
    refine x_cV4 dX11_digest_20 lv_X11_257 (kc hi kf_0) rfl rfl rfl  (c_X11_pickDigest hW0 hl hC hR hP (fun κ1 hk1 hrow1 => ?_))
    obtain ⟨j, hj, hj2, hCj⟩ := digC_n σ of' day rank q e2
    have hrow := hrow1 j hCj hj
    have hq2 := hq κ1 hk1
    rw [cI_t h9] at hq2
    rw [hCj] at hq2 ⊢
    refine x_istore dX11_digest_23 (by decide) ?_
    refine x_iload dX11_digest_25 rfl ?_
    refine x_iconst (v := -1) dX11_digest_27 (by decide) ?_
    refine x_icmp_ne (tgt := 34) dX11_digest_28 (by decide) (fun h28 => ?_) (fun h28 => ?_)
    · refine x_iload dX11_digest_34 rfl ?_
      refine x_if_lt (tgt := 66) dX11_digest_36 (by decide) (fun h36 => ?_) (fun h36 => ?_)
      · refine x_iconst (v := -1) dX11_digest_66 (by decide) ?_
        exact x_ireturn dX11_digest_67 rfl rfl ((by
rw [if_neg h28] at hq2
first
| (rw [cI_f (fun z => absurd h36 (Int32.not_lt.mpr z.1))] at hq2; exact hq2)
| (rw [cI_f (fun z => absurd ((le_p1 (by omega)).mp z.2) (Int32.not_lt.mpr h43))] at hq2; exact hq2)
| (rw [cI_t ⟨Int32.not_lt.mp h36, (le_p1 (by omega)).mpr (Int32.not_le.mp h43)⟩, hcl] at hq2; exact hq2)))
      · refine x_iload dX11_digest_39 rfl ?_
        refine x_iload dX11_digest_41 rfl ?_
        refine x_icmp_ge (tgt := 66) dX11_digest_43 (by decide) (fun h43 => ?_) (fun h43 => ?_)
        · refine x_iconst (v := -1) dX11_digest_66 (by decide) ?_
          exact x_ireturn dX11_digest_67 rfl rfl ((by
rw [if_neg h28] at hq2
first
| (rw [cI_f (fun z => absurd h36 (Int32.not_lt.mpr z.1))] at hq2; exact hq2)
| (rw [cI_f (fun z => absurd ((le_p1 (by omega)).mp z.2) (Int32.not_lt.mpr h43))] at hq2; exact hq2)
| (rw [cI_t ⟨Int32.not_lt.mp h36, (le_p1 (by omega)).mpr (Int32.not_le.mp h43)⟩, hcl] at hq2; exact hq2)))
        · refine x_iload dX11_digest_46 rfl ?_
          refine x_aload_n dX11_digest_48 rfl rfl ?_
          refine x_getf dX11_digest_49 lf_X11_82 (kc hi kf_0) kv_0_15 ?_
          refine x_alen dX11_digest_52 (by decide) (by decide) (kc hi kf_15) ?_
          refine x_icmp_ge (tgt := 66) dX11_digest_53 (by decide) (fun z => absurd z ((fun z => by
have h3 := Int32.le_trans z (Int32.le_of_lt (Int32.not_le.mp h43))
have h4 : (20 : Int32) < nI j := Int32.lt_of_le_of_lt z (Int32.not_le.mp h43)
exact absurd h4 (Int32.not_lt.mpr (nI_le (b := 20) hj (by decide)))))) (fun _ => ?_)
          obtain ⟨i', hi', rfl⟩ := of_lt (Int32.not_lt.mp h36) (Int32.not_le.mp h43) rfl (by omega)
          have hcl : (nI i').toNatClampNeg = i' := nI_clamp (by omega)
          have hr := hrow i' hi'
          refine x_aload_n dX11_digest_56 rfl rfl ?_
          refine x_getf dX11_digest_57 lf_X11_82 (kc hi kf_0) kv_0_15 ?_
          refine x_iload dX11_digest_60 rfl ?_
          refine xk_iald 15 dX11_digest_62 kf_15 rfl hi (vp_in_nI (by omega) (by decide)) hcl ?_
          rw [hr]
          refine x_goto (tgt := 67) dX11_digest_63 (by decide) ?_
          exact x_ireturn dX11_digest_67 rfl rfl ((by
rw [if_neg h28] at hq2
first
| (rw [cI_f (fun z => absurd h36 (Int32.not_lt.mpr z.1))] at hq2; exact hq2)
| (rw [cI_f (fun z => absurd ((le_p1 (by omega)).mp z.2) (Int32.not_lt.mpr h43))] at hq2; exact hq2)
| (rw [cI_t ⟨Int32.not_lt.mp h36, (le_p1 (by omega)).mpr (Int32.not_le.mp h43)⟩, hcl] at hq2; exact hq2)))
    · refine x_iload dX11_digest_31 rfl ?_
      exact x_ireturn dX11_digest_33 rfl rfl ((by rw [if_pos h28] at hq2; exact hq2))
  · have hq2 := hq κ KD.rf
    rw [cI_f h9] at hq2
    refine x_iconst (v := -1) dX11_digest_12 (by decide) ?_
    exact x_ireturn dX11_digest_13 rfl rfl (hq2)
theorem c_X11_left {of' day rank q : Int32} (hW : Wld G τ ω ε σ κ Md) (hl : RLit G) (hC : CdI σ) (hR : RulD σ) (hP : LinP σ) (hq : ∀ κ', KD κ κ' → Q (some (.int (aLeft σ of' day rank q))) (cm τ κ' Md)) : CT G (d + 9) (0, 0) MX11_left [.ref (τ 0), .int of', .int day, .int rank, .int q] (cm τ κ Md) Q := by
  have hW0 := hW
  obtain ⟨hi, hc, hD, hK⟩ := hW
  unfold aLeft at hq
  refine CT.of rfl (Nat.le_of_ble_eq_true rfl) ?_
  refine x_aload_n dX11_left_0 rfl rfl ?_
  refine x_iload_n dX11_left_1 rfl rfl ?_
  refine x_iload_n dX11_left_2 rfl rfl ?_
  refine x_iload_n dX11_left_3 rfl rfl ?_
  refine x_iload dX11_left_4 rfl ?_
  refine x_cV4 dX11_left_6 lv_X11_253 (kc hi kf_0) rfl rfl rfl  (c_X11_isDigest hW0 ?_)
  refine x_if_ne_b (tgt := 14) dX11_left_9 (by decide) (fun h9 => ?_) (fun h9 => ?_)
  · refine x_aload_n dX11_left_14 rfl rfl ?_
    refine x_iload_n dX11_left_15 rfl rfl ?_
    refine x_iload dX11_left_16 rfl ?_
    refine x_cV2 dX11_left_18 lv_X11_261 (kc hi kf_0) rfl rfl rfl  (c_X11_linesFor hW0 ?_)
    refine x_aload_n dX11_left_21 rfl rfl ?_
    refine x_iload_n dX11_left_22 rfl rfl ?_
    refine x_iload_n dX11_left_23 rfl rfl ?_
    refine x_iload_n dX11_left_24 rfl rfl ?_
    refine x_iload dX11_left_25 rfl ?_
    refine x_cV4 dX11_left_27 lv_X11_257 (kc hi kf_0) rfl rfl rfl  (c_X11_pickDigest hW0 hl hC hR hP (fun κ1 hk1 hrow1 => ?_))
    refine x_isub dX11_left_30 ?_
    exact x_ireturn dX11_left_31 rfl rfl ((by
have hq2 := hq κ1 hk1
rw [cI_t h9, digS_2] at hq2
exact hq2))
  · have hq2 := hq κ KD.rf
    rw [cI_f h9] at hq2
    refine x_iconst (v := -1) dX11_left_12 (by decide) ?_
    exact x_ireturn dX11_left_13 rfl rfl (hq2)
end PCD
