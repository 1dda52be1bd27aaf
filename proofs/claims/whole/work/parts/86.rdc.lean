/-! the class, 34: a clause, the whole text -/
section RDC
variable {G : Gam} {d : Nat} {τ : Nat → Nat} {κ : MS} {Md : Mem} {M : Mem} {Q : Option Value → Mem → Prop} {b : Nat → Int32} {n p m : Nat} {f : Nat → Int32}
theorem pClause_1 (h : isLab (lk b n p) = true) : pClause b n p = pBind (pTake b n (sk b n p + 1) 58 [-lk b n p]) (fun q cs => if pSee b n q 33 || pSee b n q 40 then pBind ((pUC b n 6).2 q) (fun r ds => pThen b n r (cs ++ ds)) else pBind (pSum b n 6 q) (fun r ds => if pIsRel b n r then pBind (pBind (pBind (pRel b n (pSum b n 6) r ds) (pUnits b n (pUC b n 6).1)) (pParts b n (pUC b n 6).1)) (fun r2 es => pThen b n r2 (cs ++ es)) else .ok (r, cs ++ ds ++ [-59]))) := by
  unfold pClause
  rw [if_pos (show pLabels.any (fun c => decide (lk b n p = c)) = true from h)]
theorem pClause_0 (h : ¬ isLab (lk b n p) = true) : pClause b n p = .error (sk b n p) := by
  unfold pClause
  rw [if_neg (show ¬ pLabels.any (fun c => decide (lk b n p = c)) = true from h)]
theorem pSee_or {q : Nat} {s t : Int32} : (pSee b n q s || pSee b n q t) = true ↔ lk b n q = s ∨ lk b n q = t := by
  rw [Bool.or_eq_true_iff, see_eq, see_eq]
/-- behind label and : -/
theorem cl_31 {q : Nat} {lab : Int32} {c0 : List Int32} (hi : adOK τ) (hl : TLit G) (hT : TpB κ b n) (hqn : q ≤ n) (hcp : c0.length + 2 ≤ q) (hc : Cds f (c0 ++ [lab])) (hq : RQ9 τ κ Md b n c0 (if pSee b n q 33 || pSee b n q 40 then pBind ((pUC b n 6).2 q) (fun r ds => pThen b n r ([lab] ++ ds)) else pBind (pSum b n 6 q) (fun r ds => if pIsRel b n r then pBind (pBind (pBind (pRel b n (pSum b n 6) r ds) (pUnits b n (pUC b n 6).1)) (pParts b n (pUC b n 6).1)) (fun r2 es => pThen b n r2 ([lab] ++ es)) else .ok (r, [lab] ++ ds ++ [-59]))) Q) : XJ G (d + 63) (0, 0) MX9_readClause (cm τ (rS κ (nI q) (nI (c0 ++ [lab]).length) f) Md) [(0, .ref (τ 8))] [] 31 Q := by
  have hn := hT.2.1
  have hl0 := hl
  obtain ⟨hz, -, -, -, -, -, ⟨tx1, sa1, hlR1, hlS1⟩, -, -, -, -, -, -, -, ⟨tx, sa, hlR, hlS⟩, -⟩ := hl
  have hlab : (c0 ++ [lab]).length = c0.length + 1 := len1
  have hge := sk_ge (b := b) (n := n) (p := q)
  have hskn := sk_le (b := b) hqn
  by_cases hm : lk b n q = 33 ∨ lk b n q = 40
  · rw [if_pos (pSee_or.mpr hm), pUC2_of (sk_sk hqn).symm 6] at hq
    have hgC := (Gd_UC (b := b) (n := n) L0_bd 6).2 (sk b n q) hskn
    refine x_aload_n dX9_readClause_31 rfl rfl ?_
    refine x_ldcS dX9_readClause_32 hlR ?_
    refine x_cV1 dX9_readClause_34 lv_X9_49 (kc hi kf_8) rfl rfl rfl  (c_sees1 (d := d + 58) hi hz hT hlS Sg_3340 hqn (in2.mpr hm) ?_)
    refine x_istore_n dX9_readClause_37 rfl (by decide) ?_
    refine x_iload_n dX9_readClause_38 rfl rfl ?_
    refine x_if_eq (tgt := 50) dX9_readClause_39 (by decide) (fun z => absurd z (by decide)) (fun _ => ?_)
    refine x_aload_n dX9_readClause_42 rfl rfl ?_
    refine x_iconst (v := 0) dX9_readClause_43 (by decide) ?_
    refine x_cV1 dX9_readClause_44 lv_X9_64 (kc hi kf_8) rfl rfl rfl  (c_cond6 (d := d) (c0 := c0 ++ [lab]) hi hl0 hT hskn (by omega) hc ?_)
    refine ⟨fun r ds hok q' f' g1 g2 g3 => ?_, fun x' herr w m' f' g1 g2 => ?_⟩
    · rw [hok] at hgC hq
      rw [pBind_ok] at hq
      obtain ⟨r1, r2, r3⟩ := (Pg_of hgC).1 r ds rfl
      have h113 := cl_113 (G := G) (d := d) (c0 := c0) (cs := [lab] ++ ds) (r := r) hi hl0 hT g1 g2 r2 (by rw [List.length_append, List.length_singleton]; omega) (by rw [← List.append_assoc]; exact g3) hq
      rw [← List.append_assoc] at h113
      refine x_goto (tgt := 55) dX9_readClause_47 (by decide) ?_
      refine x_istore_n dX9_readClause_55 rfl (by decide) ?_
      refine x_iload_n dX9_readClause_56 rfl rfl ?_
      refine x_if_ne (tgt := 105) dX9_readClause_57 (by decide) (fun _ => ?_) (fun z => absurd z (by decide))
      refine x_iload_n dX9_readClause_105 rfl rfl ?_
      refine x_if_eq (tgt := 144) dX9_readClause_106 (by decide) (fun z => absurd z (by decide)) (fun _ => ?_)
      refine x_iload_n dX9_readClause_109 rfl rfl ?_
      refine x_if_eq (tgt := 144) dX9_readClause_110 (by decide) (fun z => absurd z (by decide)) (fun _ => ?_)
      refine x_loc _ (?_ : lle _ _) h113
      exact ⟨rfl, rfl, rfl, trivial⟩
    · rw [herr, pBind_er] at hq
      have hh := cl_104e (G := G) (d := d) (w := w) (i2 := 0) (f := f') (κ := κ) (Md := Md) (Q := Q) hi hl0 hT g1 g2 (fun m2 f2 h2 => hq.2 x' rfl 0 m2 f2 h2 (Or.inl rfl))
      rcases g2 with g2 | ⟨g2, g3⟩
      · subst g2
        refine x_goto (tgt := 55) dX9_readClause_47 (by decide) ?_
        refine x_istore_n dX9_readClause_55 rfl (by decide) ?_
        refine x_iload_n dX9_readClause_56 rfl rfl ?_
        refine x_if_ne (tgt := 105) dX9_readClause_57 (by decide) (fun _ => ?_) (fun z => absurd z (by decide))
        refine x_iload_n dX9_readClause_105 rfl rfl ?_
        refine x_if_eq (tgt := 144) dX9_readClause_106 (by decide) (fun z => absurd z (by decide)) (fun _ => ?_)
        refine x_iload_n dX9_readClause_109 rfl rfl ?_
        refine x_if_eq (tgt := 144) dX9_readClause_110 (by decide) (fun _ => ?_) (fun z => absurd rfl z)
        refine x_loc _ (?_ : lle _ _) (cl_144e (d := d + 62) (i1 := 1) (w := 0) hi g1 v0 (fun m2 f2 h2 => hq.2 x' rfl 0 m2 f2 h2 (Or.inl rfl)))
        exact ⟨rfl, rfl, rfl, trivial⟩
      · subst g2
        refine x_goto (tgt := 55) dX9_readClause_47 (by decide) ?_
        refine x_istore_n dX9_readClause_55 rfl (by decide) ?_
        refine x_iload_n dX9_readClause_56 rfl rfl ?_
        refine x_if_ne (tgt := 105) dX9_readClause_57 (by decide) (fun _ => ?_) (fun z => absurd z (by decide))
        refine x_iload_n dX9_readClause_105 rfl rfl ?_
        refine x_if_eq (tgt := 144) dX9_readClause_106 (by decide) (fun z => absurd z (by decide)) (fun _ => ?_)
        refine x_iload_n dX9_readClause_109 rfl rfl ?_
        refine x_if_eq (tgt := 144) dX9_readClause_110 (by decide) (fun z => absurd z (by decide)) (fun _ => ?_)
        refine x_loc _ (?_ : lle _ _) (cl_113n (d := d) hi hl0 hT g1 (Nat.le_of_lt g3.1) (fun z => dg_no (bs := [63]) hT g3 (by decide) (in1.mpr z)) (by rw [(dg_sk hT g3).1]; exact fun m2 f2 h2 => hq.2 x' rfl 0 m2 f2 h2 (Or.inl rfl)))
        exact ⟨rfl, rfl, rfl, trivial⟩
  · rw [if_neg (fun z => hm (pSee_or.mp z)), pSum_of (sk_sk hqn).symm 6] at hq
    have hgS := Gd_sum (b := b) (n := n) L0_bd 6 (p := sk b n q) hskn
    refine x_aload_n dX9_readClause_31 rfl rfl ?_
    refine x_ldcS dX9_readClause_32 hlR ?_
    refine x_cV1 dX9_readClause_34 lv_X9_49 (kc hi kf_8) rfl rfl rfl  (c_sees0 (d := d + 58) hi hz hT hlS Sg_3340 hqn (fun z => hm (in2.mp z)) ?_)
    refine x_istore_n dX9_readClause_37 rfl (by decide) ?_
    refine x_iload_n dX9_readClause_38 rfl rfl ?_
    refine x_if_eq (tgt := 50) dX9_readClause_39 (by decide) (fun _ => ?_) (fun z => absurd rfl z)
    refine x_aload_n dX9_readClause_50 rfl rfl ?_
    refine x_iconst (v := 0) dX9_readClause_51 (by decide) ?_
    refine x_cV1 dX9_readClause_52 lv_X9_68 (kc hi kf_8) rfl rfl rfl  (c_X9_readSum (d := d + 36) (c0 := c0 ++ [lab]) (k := 6) hi hl0 hT (by decide) rfl hskn (by omega) hc ?_)
    refine ⟨fun r ds hok q' f' g1 g2 g3 => ?_, fun x' herr w m' f' g1 g2 => ?_⟩
    · rw [hok] at hgS hq
      rw [pBind_ok] at hq
      obtain ⟨r1, r2, r3⟩ := (Pg_of hgS).1 r ds rfl
      have hin : lk b n r ∈ [61, 60, 62] ↔ pIsRel b n r = true := by rw [in3]; exact sg_rel
      by_cases z : pIsRel b n r = true
      · rw [if_pos z] at hq
        have h73 := cl_73 (G := G) (d := d) (p0 := sk b n q) (r := r) (r0 := sk b n q') (c0 := c0) (lab := lab) (ds := ds) hi hl0 hT (sk_le g1) (by rw [sk_sk g1, g2]) hgS (by omega) g3 hq
        refine x_istore_n dX9_readClause_55 rfl (by decide) ?_
        refine x_iload_n dX9_readClause_56 rfl rfl ?_
        refine x_if_ne (tgt := 105) dX9_readClause_57 (by decide) (fun z => absurd rfl z) (fun _ => ?_)
        refine x_iload_n dX9_readClause_60 rfl rfl ?_
        refine x_if_eq (tgt := 105) dX9_readClause_61 (by decide) (fun z => absurd z (by decide)) (fun _ => ?_)
        refine x_aload_n dX9_readClause_64 rfl rfl ?_
        refine x_ldcS dX9_readClause_65 hlR1 ?_
        refine x_cV1 dX9_readClause_67 lv_X9_49 (kc hi kf_8) rfl rfl rfl  (c_sees1 (d := d + 58) hi hz hT hlS1 Sg_61 g1 (by rw [lk_of g2]; exact hin.mpr z) ?_)
        refine x_if_eq (tgt := 105) dX9_readClause_70 (by decide) (fun z => absurd z (by decide)) (fun _ => ?_)
        refine x_loc _ (?_ : lle _ _) h73
        exact ⟨rfl, rfl, rfl, trivial⟩
      · rw [if_neg z] at hq
        have hl2 : (c0 ++ [lab] ++ ds).length = c0.length + 1 + ds.length := by rw [List.length_append, hlab]
        have e : c0 ++ ([lab] ++ ds ++ [-59]) = (c0 ++ [lab] ++ ds) ++ [-59] := by simp only [List.append_assoc]
        refine x_istore_n dX9_readClause_55 rfl (by decide) ?_
        refine x_iload_n dX9_readClause_56 rfl rfl ?_
        refine x_if_ne (tgt := 105) dX9_readClause_57 (by decide) (fun z => absurd rfl z) (fun _ => ?_)
        refine x_iload_n dX9_readClause_60 rfl rfl ?_
        refine x_if_eq (tgt := 105) dX9_readClause_61 (by decide) (fun z => absurd z (by decide)) (fun _ => ?_)
        refine x_aload_n dX9_readClause_64 rfl rfl ?_
        refine x_ldcS dX9_readClause_65 hlR1 ?_
        refine x_cV1 dX9_readClause_67 lv_X9_49 (kc hi kf_8) rfl rfl rfl  (c_sees0 (d := d + 58) hi hz hT hlS1 Sg_61 g1 (by rw [lk_of g2]; exact fun y => z (hin.mp y)) ?_)
        refine x_if_eq (tgt := 105) dX9_readClause_70 (by decide) (fun _ => ?_) (fun z => absurd rfl z)
        refine x_iload_n dX9_readClause_105 rfl rfl ?_
        refine x_if_eq (tgt := 144) dX9_readClause_106 (by decide) (fun _ => ?_) (fun z => absurd rfl z)
        refine x_loc _ (?_ : lle _ _) (cl_144 (d := d + 62) (i1 := 0) hi (by omega) g3 (fun f2 h2 => ?_))
        · exact ⟨rfl, rfl, rfl, trivial⟩
        · have h := hq.1 r _ rfl (sk b n q') f2 (sk_le g1) (by rw [sk_sk g1, g2]) (by rw [e]; exact h2)
          rw [e] at h
          exact h
    · rw [herr, pBind_er] at hq
      rcases g2 with g2 | ⟨g2, g3⟩
      · subst g2
        refine x_istore_n dX9_readClause_55 rfl (by decide) ?_
        refine x_iload_n dX9_readClause_56 rfl rfl ?_
        refine x_if_ne (tgt := 105) dX9_readClause_57 (by decide) (fun z => absurd rfl z) (fun _ => ?_)
        refine x_iload_n dX9_readClause_60 rfl rfl ?_
        refine x_if_eq (tgt := 105) dX9_readClause_61 (by decide) (fun _ => ?_) (fun z => absurd rfl z)
        refine x_iload_n dX9_readClause_105 rfl rfl ?_
        refine x_if_eq (tgt := 144) dX9_readClause_106 (by decide) (fun _ => ?_) (fun z => absurd rfl z)
        refine x_loc _ (?_ : lle _ _) (cl_144e (d := d + 62) (i1 := 0) (w := 0) hi g1 v0 (fun m2 f2 h2 => hq.2 x' rfl 0 m2 f2 h2 (Or.inl rfl)))
        exact ⟨rfl, rfl, rfl, trivial⟩
      · subst g2
        refine x_istore_n dX9_readClause_55 rfl (by decide) ?_
        refine x_iload_n dX9_readClause_56 rfl rfl ?_
        refine x_if_ne (tgt := 105) dX9_readClause_57 (by decide) (fun z => absurd rfl z) (fun _ => ?_)
        refine x_iload_n dX9_readClause_60 rfl rfl ?_
        refine x_if_eq (tgt := 105) dX9_readClause_61 (by decide) (fun z => absurd z (by decide)) (fun _ => ?_)
        refine x_aload_n dX9_readClause_64 rfl rfl ?_
        refine x_ldcS dX9_readClause_65 hlR1 ?_
        refine x_cV1 dX9_readClause_67 lv_X9_49 (kc hi kf_8) rfl rfl rfl  (c_sees0 (d := d + 58) hi hz hT hlS1 Sg_61 (Nat.le_of_lt g3.1) (dg_no hT g3 (by decide)) ?_)
        rw [(dg_sk hT g3).1]
        refine x_if_eq (tgt := 105) dX9_readClause_70 (by decide) (fun _ => ?_) (fun z => absurd rfl z)
        refine x_iload_n dX9_readClause_105 rfl rfl ?_
        refine x_if_eq (tgt := 144) dX9_readClause_106 (by decide) (fun _ => ?_) (fun z => absurd rfl z)
        refine x_loc _ (?_ : lle _ _) (cl_144e (d := d + 62) (i1 := 0) (w := 1) hi g1 v1 (fun m2 f2 h2 => hq.2 x' rfl 1 m2 f2 h2 (Or.inr ⟨rfl, g3⟩)))
        exact ⟨rfl, rfl, rfl, trivial⟩
theorem c_X9_readClause {c0 : List Int32} (hi : adOK τ) (hl : TLit G) (hT : TpB κ b n) (hp : p ≤ n) (hcp : c0.length ≤ p) (hc : Cds f c0) (hq : RQ9 τ κ Md b n c0 (pClause b n p) Q) : CT G (d + 63) (0, 0) MX9_readClause [.ref (τ 8)] (cm τ (rS κ (nI p) (nI c0.length) f) Md) Q := by
  have hn := hT.2.1
  have hl0 := hl
  have hge := sk_ge (b := b) (n := n) (p := p)
  have hskn := sk_le (b := b) hp
  obtain ⟨hz, -, -, -, -, -, -, -, -, -, -, -, ⟨tx1, sa1, hlR1, hlS1⟩, ⟨tx, sa, hlR, hlS⟩, -⟩ := hl
  refine CT.of rfl (Nat.le_of_ble_eq_true rfl) ?_
  by_cases y : isLab (lk b n p) = true
  · rw [pClause_1 y] at hq
    have hlt : sk b n p < n := lk_lt (fun z => by rw [z] at y; revert y; decide)
    have hlk : b (sk b n p) &&& 255 = lk b n p := by unfold lk; rw [if_pos hlt]
    have hge2 := sk_ge (b := b) (n := n) (p := sk b n p + 1)
    unfold pTake at hq
    by_cases h58 : lk b n (sk b n p + 1) = 58
    · rw [if_pos (see_eq.mpr h58), pBind_ok] at hq
      have hlt2 : sk b n (sk b n p + 1) < n := lk_lt (by rw [h58]; decide)
      have h31 := cl_31 (G := G) (d := d) (κ := κ) (Md := Md) (f := updB f c0.length (-lk b n p)) (lab := -lk b n p) (c0 := c0) hi hl0 hT (show sk b n (sk b n p + 1) + 1 ≤ n by omega) (by omega) (Cds_add hc) hq
      rw [len1] at h31
      refine x_aload_n dX9_readClause_0 rfl rfl ?_
      refine x_ldcS dX9_readClause_1 hlR1 ?_
      refine x_cV1 dX9_readClause_3 lv_X9_49 (kc hi kf_8) rfl rfl rfl  (c_sees1 (d := d + 58) hi hz hT hlS1 Sg_lab hp (in_lab.mpr y) ?_)
      refine x_if_ne (tgt := 11) dX9_readClause_6 (by decide) (fun _ => ?_) (fun z => absurd z (by decide))
      refine x_aload_n dX9_readClause_11 rfl rfl ?_
      refine x_aload_n dX9_readClause_12 rfl rfl ?_
      refine x_cV0 dX9_readClause_13 lv_X9_52 (kc hi kf_8) rfl rfl rfl  (c_X9_takeSign hi hT hlt ?_)
      rw [hlk]
      refine x_ineg dX9_readClause_16 ?_
      refine x_cV1 dX9_readClause_17 lv_X9_56 (kc hi kf_8) rfl rfl rfl  (c_addOK hi (by omega) ?_)
      refine x_aload_n dX9_readClause_20 rfl rfl ?_
      refine x_ldcS dX9_readClause_21 hlR ?_
      refine x_cV1 dX9_readClause_23 lv_X9_41 (kc hi kf_8) rfl rfl rfl  (c_take1 (d := d + 57) hi hz hT hlS Sg_58 (by omega) (in1.mpr h58) ?_)
      refine x_if_ne (tgt := 31) dX9_readClause_26 (by decide) (fun _ => ?_) (fun z => absurd z (by decide))
      exact h31
    · rw [if_neg (fun z => h58 (see_eq.mp z)), pBind_er] at hq
      refine x_aload_n dX9_readClause_0 rfl rfl ?_
      refine x_ldcS dX9_readClause_1 hlR1 ?_
      refine x_cV1 dX9_readClause_3 lv_X9_49 (kc hi kf_8) rfl rfl rfl  (c_sees1 (d := d + 58) hi hz hT hlS1 Sg_lab hp (in_lab.mpr y) ?_)
      refine x_if_ne (tgt := 11) dX9_readClause_6 (by decide) (fun _ => ?_) (fun z => absurd z (by decide))
      refine x_aload_n dX9_readClause_11 rfl rfl ?_
      refine x_aload_n dX9_readClause_12 rfl rfl ?_
      refine x_cV0 dX9_readClause_13 lv_X9_52 (kc hi kf_8) rfl rfl rfl  (c_X9_takeSign hi hT hlt ?_)
      rw [hlk]
      refine x_ineg dX9_readClause_16 ?_
      refine x_cV1 dX9_readClause_17 lv_X9_56 (kc hi kf_8) rfl rfl rfl  (c_addOK hi (by omega) ?_)
      refine x_aload_n dX9_readClause_20 rfl rfl ?_
      refine x_ldcS dX9_readClause_21 hlR ?_
      refine x_cV1 dX9_readClause_23 lv_X9_41 (kc hi kf_8) rfl rfl rfl  (c_take0 (d := d + 57) hi hz hT hlS Sg_58 (by omega) (fun z => h58 (in1.mp z)) ?_)
      refine x_if_ne (tgt := 31) dX9_readClause_26 (by decide) (fun z => absurd rfl z) (fun _ => ?_)
      refine x_iconst (v := 0) dX9_readClause_29 (by decide) ?_
      exact x_ireturn dX9_readClause_30 rfl rfl (hq.2 _ rfl 0 _ _ (by omega) (Or.inl rfl))
  · rw [pClause_0 y] at hq
    refine x_aload_n dX9_readClause_0 rfl rfl ?_
    refine x_ldcS dX9_readClause_1 hlR1 ?_
    refine x_cV1 dX9_readClause_3 lv_X9_49 (kc hi kf_8) rfl rfl rfl  (c_sees0 (d := d + 58) hi hz hT hlS1 Sg_lab hp (fun z => y (in_lab.mp z)) ?_)
    refine x_if_ne (tgt := 11) dX9_readClause_6 (by decide) (fun z => absurd rfl z) (fun _ => ?_)
    refine x_iconst (v := 0) dX9_readClause_9 (by decide) ?_
    exact x_ireturn dX9_readClause_10 rfl rfl (hq.2 _ rfl 0 _ _ (by omega) (Or.inl rfl))
end RDC
