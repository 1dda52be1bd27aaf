/-! the class, 5: marks -/
/-- a row's first n places hold v -/
def filR (κ : MS) (r n : Nat) (v : Int32) : MS := (κ.1, fun j => bif Nat.beq j r then (fun i => if i < n then v else κ.2 r i) else κ.2 j)
theorem filR_0 (κ : MS) (r : Nat) (v : Int32) : filR κ r 0 v = κ := by
  refine Prod.ext rfl (funext fun j => ?_)
  show (bif Nat.beq j r then _ else κ.2 j) = κ.2 j
  cases z : Nat.beq j r with
  | false => rfl
  | true =>
    rw [Nat.eq_of_beq_eq_true z]
    funext i
    show (if i < 0 then v else κ.2 r i) = κ.2 r i
    exact if_neg (Nat.not_lt_zero i)
theorem filR_s (κ : MS) (r n : Nat) (v : Int32) : seta (filR κ r n v) r n v = filR κ r (n + 1) v := by
  refine Prod.ext rfl (funext fun j => ?_)
  by_cases z : j = r
  · subst z
    rw [seta_eq]
    show updB (bif Nat.beq j j then _ else _) n v = (bif Nat.beq j j then _ else _)
    rw [Nat.beq_refl]
    funext i
    show updB (fun i => if i < n then v else κ.2 j i) n v i = if i < n + 1 then v else κ.2 j i
    by_cases e : i = n
    · subst e; rw [updB_eq, if_pos (Nat.lt_succ_self _)]
    · rw [updB_ne e]
      by_cases e2 : i < n
      · rw [if_pos e2, if_pos (by omega)]
      · rw [if_neg e2, if_neg (by omega)]
  · rw [seta_ne z]
    show (bif Nat.beq j r then _ else κ.2 j) = (bif Nat.beq j r then _ else κ.2 j)
    rw [beq_f z]; rfl
theorem filR_ne {κ : MS} {r n j : Nat} {v : Int32} (h : ¬ j = r) : (filR κ r n v).2 j = κ.2 j := by
  show (bif Nat.beq j r then _ else κ.2 j) = κ.2 j
  rw [beq_f h]; rfl
theorem filR_eq {κ : MS} {r n : Nat} {v : Int32} : (filR κ r n v).2 r = fun i => if i < n then v else κ.2 r i := by
  show (bif Nat.beq r r then _ else κ.2 r) = _
  rw [Nat.beq_refl]; rfl
theorem kf_m : ∀ r, r < 6 → mFind kArr (40 + r) = some (100, 200) := by decide
theorem kr_m : ∀ r, r < 6 → kRow (40 + r) = true := by decide
theorem kf_p : ∀ r, r < 8 → mFind kArr (30 + r) = some (100, 4) := by decide
theorem kr_p : ∀ r, r < 8 → kRow (30 + r) = true := by decide
/-- the same but for the rows of marks -/
def KM (κ κ' : MS) : Prop := κ'.1 = κ.1 ∧ ∀ r, (r < 40 ∨ 46 ≤ r) → κ'.2 r = κ.2 r
theorem Kap_KM {σ κ κ' : MS} (h : KM κ κ') (hK : Kap σ κ) : Kap σ κ' := by
  obtain ⟨h1, h2, h3, ⟨t1, t2, t3, t4⟩, h5⟩ := hK
  unfold Kap TabK
  rw [h.1, h.2 17 (Or.inl (by decide)), h.2 20 (Or.inl (by decide)), h.2 21 (Or.inl (by decide)), h.2 22 (Or.inl (by decide)), h.2 23 (Or.inl (by decide))]
  exact ⟨h1, h2, h3, ⟨t1, t2, t3, t4⟩, fun p s hp hs => by rw [h.2 (30 + p) (Or.inl (by omega))]; exact h5 p s hp hs⟩
theorem Wld_KM {G : Gam} {τ : Nat → Nat} {ω : Nat → Nat → Nat} {ε : Nat → Nat} {σ κ κ' : MS} {Md : Mem} (h : KM κ κ') (hW : Wld G τ ω ε σ κ Md) : Wld G τ ω ε σ κ' Md := ⟨hW.1, hW.2.1, hW.2.2.1, Kap_KM h hW.2.2.2⟩
/-- marks are of readers, on lines, told no earlier than these -/
def MkI (σ : MS) : Prop := ∀ i, i < cn σ 49 → isR (σ.2 45 i) ∧ isL σ (σ.2 46 i) ∧ σ.2 14 (σ.2 46 i).toNatClampNeg ≤ σ.2 48 i
theorem spMark_s (σ : MS) (r l q : Int32) (i : Nat) : spMark σ r l q (i + 1) = if σ.2 45 i = r ∧ σ.2 46 i = l ∧ σ.2 48 i ≤ q then σ.2 47 i else spMark σ r l q i := rfl
section CLE
variable {G : Gam} {d : Nat} {τ : Nat → Nat} {ω : Nat → Nat → Nat} {ε : Nat → Nat} {σ κ : MS} {Md : Mem} {M : Mem} {Q : Option Value → Mem → Prop} {k : Nat}
theorem c_J7_fill {r n : Nat} {v : Int32} (hi : adOK τ) (hf : mFind kArr r = some (100, n)) (hr : kRow r = true) (hn : n < 2 ^ 31) (hq : Q none (cm τ (filR κ r n v) Md)) : CT G d (0, 0) MJ7_fill_53178 [.ref (τ r), .int v] (cm τ κ Md) Q := by
  refine CT.of rfl (Nat.le_of_ble_eq_true rfl) ?_
  rw [← filR_0 κ r v]
  refine x_iconst (v := 0) dJ7_fill_53178_0 (by decide) ?_
  refine x_istore_n dJ7_fill_53178_1 rfl (by decide) ?_
  refine x_aload_n dJ7_fill_53178_2 rfl rfl ?_
  refine x_alen dJ7_fill_53178_3 (by decide) (by decide) (kc hi hf) ?_
  refine x_istore_n dJ7_fill_53178_4 rfl (by decide) ?_
  refine x_loc [(0, .ref (τ r)), (1, .int v), (2, .int (nI 0)), (3, .int (nI n))] ⟨rfl, rfl, rfl, rfl, trivial⟩ ?_
  refine loop_up (P := fun i => XJ G d (0, 0) MJ7_fill_53178 (cm τ (filR κ r i v) Md) [(0, .ref (τ r)), (1, .int v), (2, .int (nI i)), (3, .int (nI n))] [] 5 Q) (n := n) ?_ ?_ 0 (Nat.zero_le _)
  · refine x_iload_n dJ7_fill_53178_5 rfl rfl ?_
    refine x_iload_n dJ7_fill_53178_6 rfl rfl ?_
    refine x_icmp_ge (tgt := 20) dJ7_fill_53178_7 (by decide) (fun _ => ?_) (fun z => absurd (loopT rfl) z)
    exact x_return dJ7_fill_53178_20 rfl (hq)
  · intro i hlt ih
    have hin : vp_in (nI i) n := vp_in_nI hlt hn
    have hcl : (nI i).toNatClampNeg = i := nI_clamp (by omega)
    refine x_iload_n dJ7_fill_53178_5 rfl rfl ?_
    refine x_iload_n dJ7_fill_53178_6 rfl rfl ?_
    refine x_icmp_ge (tgt := 20) dJ7_fill_53178_7 (by decide) (fun z => absurd z (loopF rfl hlt (by omega))) (fun _ => ?_)
    refine x_aload_n dJ7_fill_53178_10 rfl rfl ?_
    refine x_iload_n dJ7_fill_53178_11 rfl rfl ?_
    refine x_iload_n dJ7_fill_53178_12 rfl rfl ?_
    refine xk_iast r dJ7_fill_53178_13 hf hr hi hin hcl ?_
    rw [filR_s]
    refine x_iinc (c := 1) dJ7_fill_53178_14 rfl (by decide) ?_
    refine x_goto (tgt := 5) dJ7_fill_53178_17 (by decide) ?_
    refine x_loc _ (?_ : lle _ _) ih
    refine ⟨rfl, rfl, ?_, rfl, trivial⟩
    · show some (Value.int _) = some (Value.int (nI (i + 1)))
      rw [← nI_1]
/-- rows of marks below i are cleared -/
def layK (κ : MS) (i : Nat) : MS := (κ.1, fun j => if 40 ≤ j ∧ j < 40 + i then (fun l => if l < 200 then -1 else κ.2 j l) else κ.2 j)
theorem layK_0 (κ : MS) : layK κ 0 = κ := Prod.ext rfl (funext fun j => if_neg (by omega))
theorem layK_s (κ : MS) (i : Nat) : filR (layK κ i) (40 + i) 200 (-1) = layK κ (i + 1) := by
  refine Prod.ext rfl (funext fun j => ?_)
  by_cases z : j = 40 + i
  · subst z
    rw [filR_eq]
    show (fun l => if l < 200 then (-1 : Int32) else (if 40 ≤ 40 + i ∧ 40 + i < 40 + i then _ else κ.2 (40 + i)) l) = if 40 ≤ 40 + i ∧ 40 + i < 40 + (i + 1) then _ else _
    rw [if_neg (by omega), if_pos (by omega)]
  · rw [filR_ne z]
    show (if 40 ≤ j ∧ j < 40 + i then _ else κ.2 j) = if 40 ≤ j ∧ j < 40 + (i + 1) then _ else κ.2 j
    by_cases y : 40 ≤ j ∧ j < 40 + i
    · rw [if_pos y, if_pos (by omega)]
    · rw [if_neg y, if_neg (by omega)]
theorem c_X11_layMarks {q : Int32} (hW : Wld G τ ω ε σ κ Md) (hM : MkI σ) (hq : ∀ κ', KM κ κ' → (∀ r l, r < 6 → l < 200 → κ'.2 (40 + r) l = mk σ q (nI r) l) → Q none (cm τ κ' Md)) : CT G (d + 3) (0, 0) MX11_layMarks [.ref (τ 0), .int q] (cm τ κ Md) Q := by
  have hW' := hW
  obtain ⟨hi, hc, hD, hK⟩ := hW
  obtain ⟨hl1, hl2⟩ := hc.b 49 (b := 200) (by decide)
  obtain ⟨hn1, hn2⟩ := hc.b 16 (b := 200) (by decide)
  refine CT.of rfl (Nat.le_of_ble_eq_true rfl) ?_
  have H : ∀ f i κ', i + f = cn σ 49 → KM κ κ' → (∀ r l, r < 6 → l < 200 → κ'.2 (40 + r) l = spMark σ (nI r) (nI l) q i) → XJ G (d + 3) (0, 0) MX11_layMarks (cm τ κ' Md) [(0, .ref (τ 0)), (1, .int q), (2, .int (nI i))] [] 26 Q := by
    intro f
    induction f with
    | zero =>
      intro i κ' hif hkm hrow
      obtain rfl : i = cn σ 49 := by omega
      refine x_iload_n dX11_layMarks_26 rfl rfl ?_
      refine x_aload_n dX11_layMarks_27 rfl rfl ?_
      refine x_getf dX11_layMarks_28 lf_X11_28 (kc hi kf_0) kv_0_6 ?_
      refine x_cV0 dX11_layMarks_31 lv_X11_100 (hD.lc 6 li_6) rfl rfl rfl (c_lsz_6 hD ?_)
      refine x_icmp_ge (tgt := 102) dX11_layMarks_34 (by decide) (fun _ => ?_) (fun z => absurd (loopT rfl) z)
      exact x_return dX11_layMarks_102 rfl (hq κ' hkm hrow)
    | succ f ih =>
      intro i κ' hif hkm hrow
      have hlt : i < cn σ 49 := by omega
      have hW2 := Wld_KM hkm hW'
      obtain ⟨m1, m2, -⟩ := hM i hlt
      obtain ⟨r, hr, hre⟩ := of_le (n := 5) m1.1 m1.2 rfl (by decide)
      obtain ⟨l, hl, hle⟩ := of_lt m2.1 m2.2 hn1 (by omega)
      have hr6 : r < 6 := by omega
      have hclr : (nI r).toNatClampNeg = r := nI_clamp (by omega)
      have hcll : (nI l).toNatClampNeg = l := nI_clamp (by omega)
      refine x_iload_n dX11_layMarks_26 rfl rfl ?_
      refine x_aload_n dX11_layMarks_27 rfl rfl ?_
      refine x_getf dX11_layMarks_28 lf_X11_28 (kc hi kf_0) kv_0_6 ?_
      refine x_cV0 dX11_layMarks_31 lv_X11_100 (hD.lc 6 li_6) rfl rfl rfl (c_lsz_6 hD ?_)
      refine x_icmp_ge (tgt := 102) dX11_layMarks_34 (by decide) (fun z => absurd z (loopF rfl hlt (by omega))) (fun _ => ?_)
      have hst : ∀ κ2, KM κ κ2 → (∀ r l, r < 6 → l < 200 → κ2.2 (40 + r) l = spMark σ (nI r) (nI l) q (i + 1)) → XJ G (d + 3) (0, 0) MX11_layMarks (cm τ κ2 Md) [(0, .ref (τ 0)), (1, .int q), (2, .int (nI i))] [] 96 Q := by
        intro κ2 hk2 hr2
        refine x_iinc (c := 1) dX11_layMarks_96 rfl (by decide) ?_
        refine x_goto (tgt := 26) dX11_layMarks_99 (by decide) ?_
        refine x_loc _ (?_ : lle _ _) (ih (i + 1) κ2 (by omega) hk2 hr2)
        refine ⟨rfl, rfl, ?_, trivial⟩
        show some (Value.int (nI i + 1)) = some (Value.int (nI (i + 1)))
        rw [nI_1]
      refine x_aload_n dX11_layMarks_37 rfl rfl ?_
      refine x_getf dX11_layMarks_38 lf_X11_28 (kc hi kf_0) kv_0_6 ?_
      refine x_iload_n dX11_layMarks_41 rfl rfl ?_
      refine x_cV1 dX11_layMarks_42 lv_X11_126 (hD.lc 6 li_6) rfl rfl rfl (c_lget (k := 6) hD li_6 hlt ?_)
      refine x_cast (q := (_, _, _)) dX11_layMarks_45 (show vwCl[3]? = some _ from rfl) tb826 (ob_6 hD hlt) ?_
      refine x_astore_n dX11_layMarks_48 rfl (by decide) ?_
      refine x_aload_n dX11_layMarks_49 rfl rfl ?_
      refine x_getf dX11_layMarks_50 lf_X11_325 (ob_6 hD hlt) ov_6_3 ?_
      refine x_iload_n dX11_layMarks_53 rfl rfl ?_
      refine x_icmp_gt (tgt := 96) dX11_layMarks_54 (by decide) (fun h54 => ?_) (fun h54 => ?_)
      · first
        | (refine x_loc _ (?_ : lle _ _) (hst κ' hkm (fun r' l' hr' hl' => ?_))
           · exact ⟨rfl, rfl, rfl, trivial⟩
           · rw [spMark_s, if_neg (fun z => absurd z.2.2 (Int32.not_le.mpr h54))]; exact hrow r' l' hr' hl')
        | (refine x_loc _ (?_ : lle _ _) (hst (seta κ' (40 + r) l (σ.2 47 i)) ⟨hkm.1, fun j hj => (seta_ne (by omega)).trans (hkm.2 j hj)⟩ (fun r' l' hr' hl' => ?_))
           · exact ⟨rfl, rfl, rfl, trivial⟩
           · rw [spMark_s, hre, hle]
             by_cases e : r' = r
             · subst e
               rw [seta_eq]
               by_cases e2 : l' = l
               · subst e2; rw [updB_eq, if_pos ⟨rfl, rfl, Int32.not_lt.mp h54⟩]
               · rw [updB_ne e2, if_neg (fun z => e2 ((nI_eq (by omega) (by omega)).mp z.2.1).symm)]; exact hrow r' l' hr' hl'
             · rw [seta_ne (by omega), if_neg (fun z => e ((nI_eq (by omega) (by omega)).mp z.1).symm)]; exact hrow r' l' hr' hl')
      · refine x_aload_n dX11_layMarks_57 rfl rfl ?_
        refine x_getf dX11_layMarks_58 lf_X11_326 (ob_6 hD hlt) ov_6_0 ?_
        refine x_cS1 dX11_layMarks_61 ls_X11_316 rfl  (c_X11_isReader ?_)
        refine x_if_eq_b (tgt := 96) dX11_layMarks_64 (by decide) (fun z => absurd m1 z) (fun _ => ?_)
        refine x_aload_n dX11_layMarks_67 rfl rfl ?_
        refine x_aload_n dX11_layMarks_68 rfl rfl ?_
        refine x_getf dX11_layMarks_69 lf_X11_329 (ob_6 hD hlt) ov_6_1 ?_
        refine x_cV1 dX11_layMarks_72 lv_X11_136 (kc hi kf_0) rfl rfl rfl  (c_X11_isLine hW2 ?_)
        refine x_if_eq_b (tgt := 96) dX11_layMarks_75 (by decide) (fun z => absurd m2 z) (fun _ => ?_)
        refine x_aload_n dX11_layMarks_78 rfl rfl ?_
        refine x_getf dX11_layMarks_79 lf_X11_60 (kc hi kf_0) kv_0_12 ?_
        refine x_aload_n dX11_layMarks_82 rfl rfl ?_
        refine x_getf dX11_layMarks_83 lf_X11_326 (ob_6 hD hlt) ov_6_0 ?_
        rw [hre]
        refine x_aaload dX11_layMarks_86 (Or.inl rfl) (kc hi kf_12) (vp_in_nI hr6 (by decide)) (show kV _ _ 12 _ = .ref (τ (40 + r)) by rw [hclr]; rfl) ?_
        refine x_aload_n dX11_layMarks_87 rfl rfl ?_
        refine x_getf dX11_layMarks_88 lf_X11_329 (ob_6 hD hlt) ov_6_1 ?_
        rw [hle]
        refine x_aload_n dX11_layMarks_91 rfl rfl ?_
        refine x_getf dX11_layMarks_92 lf_X11_332 (ob_6 hD hlt) ov_6_2 ?_
        refine xk_iast (40 + r) dX11_layMarks_95 (kf_m r hr6) (kr_m r hr6) hi (vp_in_nI (by omega) (by decide)) hcll ?_
        first
        | (refine x_loc _ (?_ : lle _ _) (hst κ' hkm (fun r' l' hr' hl' => ?_))
           · exact ⟨rfl, rfl, rfl, trivial⟩
           · rw [spMark_s, if_neg (fun z => absurd z.2.2 (Int32.not_le.mpr h54))]; exact hrow r' l' hr' hl')
        | (refine x_loc _ (?_ : lle _ _) (hst (seta κ' (40 + r) l (σ.2 47 i)) ⟨hkm.1, fun j hj => (seta_ne (by omega)).trans (hkm.2 j hj)⟩ (fun r' l' hr' hl' => ?_))
           · exact ⟨rfl, rfl, rfl, trivial⟩
           · rw [spMark_s, hre, hle]
             by_cases e : r' = r
             · subst e
               rw [seta_eq]
               by_cases e2 : l' = l
               · subst e2; rw [updB_eq, if_pos ⟨rfl, rfl, Int32.not_lt.mp h54⟩]
               · rw [updB_ne e2, if_neg (fun z => e2 ((nI_eq (by omega) (by omega)).mp z.2.1).symm)]; exact hrow r' l' hr' hl'
             · rw [seta_ne (by omega), if_neg (fun z => e ((nI_eq (by omega) (by omega)).mp z.1).symm)]; exact hrow r' l' hr' hl')
  rw [← layK_0 κ]
  refine x_iconst (v := 0) dX11_layMarks_0 (by decide) ?_
  refine x_istore_n dX11_layMarks_1 rfl (by decide) ?_
  refine x_loc [(0, .ref (τ 0)), (1, .int q), (2, .int (nI 0))] ⟨rfl, rfl, rfl, trivial⟩ ?_
  refine loop_up (P := fun i => XJ G (d + 3) (0, 0) MX11_layMarks (cm τ (layK κ i) Md) [(0, .ref (τ 0)), (1, .int q), (2, .int (nI i))] [] 2 Q) (n := 6) ?_ ?_ 0 (Nat.zero_le _)
  · refine x_iload_n dX11_layMarks_2 rfl rfl ?_
    refine x_bipush (v := 6) dX11_layMarks_3 (by decide) ?_
    refine x_icmp_ge (tgt := 24) dX11_layMarks_5 (by decide) (fun _ => ?_) (fun z => absurd (loopT (show (6 : Int32) = nI 6 from rfl)) z)
    refine x_iconst (v := 0) dX11_layMarks_24 (by decide) ?_
    refine x_istore_n dX11_layMarks_25 rfl (by decide) ?_
    refine x_loc _ (?_ : lle _ _) (H (cn σ 49) 0 (layK κ 6) (by omega) ⟨rfl, fun j hj => if_neg (by omega)⟩ (fun r l hr hl => ?_))
    · exact ⟨rfl, rfl, rfl, trivial⟩
    · have e : (layK κ 6).2 (40 + r) = fun l => if l < 200 then -1 else κ.2 (40 + r) l := if_pos (by omega)
      rw [e]
      exact if_pos hl
  · intro i hlt ih
    have hcl : (nI i).toNatClampNeg = i := nI_clamp (by omega)
    refine x_iload_n dX11_layMarks_2 rfl rfl ?_
    refine x_bipush (v := 6) dX11_layMarks_3 (by decide) ?_
    refine x_icmp_ge (tgt := 24) dX11_layMarks_5 (by decide) (fun z => absurd z (loopF (show (6 : Int32) = nI 6 from rfl) hlt (by omega))) (fun _ => ?_)
    refine x_aload_n dX11_layMarks_8 rfl rfl ?_
    refine x_getf dX11_layMarks_9 lf_X11_60 (kc hi kf_0) kv_0_12 ?_
    refine x_iload_n dX11_layMarks_12 rfl rfl ?_
    refine x_aaload dX11_layMarks_13 (Or.inl rfl) (kc hi kf_12) (vp_in_nI hlt (by decide)) (show kV _ _ 12 _ = .ref (τ (40 + i)) by rw [hcl]; rfl) ?_
    refine x_iconst (v := -1) dX11_layMarks_14 (by decide) ?_
    refine x_cS2 dX11_layMarks_15 ls_X11_216 rfl  (c_J7_fill (r := 40 + i) (n := 200) hi (kf_m i hlt) (kr_m i hlt) (by decide) ?_)
    rw [layK_s]
    refine x_iinc (c := 1) dX11_layMarks_18 rfl (by decide) ?_
    refine x_goto (tgt := 2) dX11_layMarks_21 (by decide) ?_
    refine x_loc _ (?_ : lle _ _) ih
    refine ⟨rfl, rfl, ?_, trivial⟩
    · show some (Value.int _) = some (Value.int (nI (i + 1)))
      rw [← nI_1]
theorem c_X11_marked {r l q : Int32} (hW : Wld G τ ω ε σ κ Md) (hM : MkI σ) (hq : ∀ κ', KM κ κ' → Q (some (.int (aMarked σ r l q))) (cm τ κ' Md)) : CT G (d + 4) (0, 0) MX11_marked [.ref (τ 0), .int r, .int l, .int q] (cm τ κ Md) Q := by
  have hW' := hW
  obtain ⟨hi, hc, hD, hK⟩ := hW
  obtain ⟨hn1, hn2⟩ := hc.b 16 (b := 200) (by decide)
  refine CT.of rfl (Nat.le_of_ble_eq_true rfl) ?_
  refine x_iload_n dX11_marked_0 rfl rfl ?_
  refine x_cS1 dX11_marked_1 ls_X11_316 rfl  (c_X11_isReader ?_)
  refine x_if_eq_b (tgt := 23) dX11_marked_4 (by decide) (fun h4 => ?_) (fun h4 => ?_)
  · refine x_iconst (v := -1) dX11_marked_23 (by decide) ?_
    exact x_ireturn dX11_marked_24 rfl rfl (fan_f (hq κ ⟨rfl, fun _ _ => rfl⟩) (fun z => by first | exact h4 z.1 | exact h12 z.2.1 | exact h20 z.2.2))
  · refine x_aload_n dX11_marked_7 rfl rfl ?_
    refine x_iload_n dX11_marked_8 rfl rfl ?_
    refine x_cV1 dX11_marked_9 lv_X11_136 (kc hi kf_0) rfl rfl rfl  (c_X11_isLine hW' ?_)
    refine x_if_eq_b (tgt := 23) dX11_marked_12 (by decide) (fun h12 => ?_) (fun h12 => ?_)
    · refine x_iconst (v := -1) dX11_marked_23 (by decide) ?_
      exact x_ireturn dX11_marked_24 rfl rfl (fan_f (hq κ ⟨rfl, fun _ _ => rfl⟩) (fun z => by first | exact h4 z.1 | exact h12 z.2.1 | exact h20 z.2.2))
    · refine x_aload_n dX11_marked_15 rfl rfl ?_
      refine x_iload_n dX11_marked_16 rfl rfl ?_
      refine x_cV1 dX11_marked_17 lv_X11_158 (kc hi kf_0) rfl rfl rfl  (c_X11_isKnownDay hW' ?_)
      refine x_if_ne_b (tgt := 25) dX11_marked_20 (by decide) (fun h20 => ?_) (fun h20 => ?_)
      · refine x_aload_n dX11_marked_25 rfl rfl ?_
        refine x_iload_n dX11_marked_26 rfl rfl ?_
        refine x_cV1 dX11_marked_27 lv_X11_322 (kc hi kf_0) rfl rfl rfl  (c_X11_layMarks hW' hM ?_)
        intro κ' hkm hrow
        obtain ⟨r', hr', rfl⟩ := of_le (n := 5) h4.1 h4.2 rfl (by decide)
        obtain ⟨l', hl', rfl⟩ := of_lt h12.1 h12.2 hn1 (by omega)
        have hr6 : r' < 6 := by omega
        have hclr : (nI r').toNatClampNeg = r' := nI_clamp (by omega)
        have hcll : (nI l').toNatClampNeg = l' := nI_clamp (by omega)
        have h2 := fan_t (hq κ' hkm) ⟨h4, h12, h20⟩
        refine x_aload_n dX11_marked_30 rfl rfl ?_
        refine x_getf dX11_marked_31 lf_X11_60 (kc hi kf_0) kv_0_12 ?_
        refine x_iload_n dX11_marked_34 rfl rfl ?_
        refine x_aaload dX11_marked_35 (Or.inl rfl) (kc hi kf_12) (vp_in_nI hr6 (by decide)) (show kV _ _ 12 _ = .ref (τ (40 + r')) by rw [hclr]; rfl) ?_
        refine x_iload_n dX11_marked_36 rfl rfl ?_
        refine xk_iald (40 + r') dX11_marked_37 (kf_m r' hr6) (kr_m r' hr6) hi (vp_in_nI (by omega) (by decide)) hcll ?_
        rw [hrow r' l' hr6 (by omega)]
        exact x_ireturn dX11_marked_38 rfl rfl (h2)
      · refine x_iconst (v := -1) dX11_marked_23 (by decide) ?_
        exact x_ireturn dX11_marked_24 rfl rfl (fan_f (hq κ ⟨rfl, fun _ _ => rfl⟩) (fun z => by first | exact h4 z.1 | exact h12 z.2.1 | exact h20 z.2.2))
theorem c_X11_agree {a b q w : Int32} (hW : Wld G τ ω ε σ κ Md) (hM : MkI σ) (hq : ∀ κ', KM κ κ' → Q (some (.int (aAgree σ a b q w))) (cm τ κ' Md)) : CT G (d + 4) (0, 0) MX11_agree [.ref (τ 0), .int a, .int b, .int q, .int w] (cm τ κ Md) Q := by
  have hW' := hW
  obtain ⟨hi, hc, hD, hK⟩ := hW
  obtain ⟨hn1, hn2⟩ := hc.b 16 (b := 200) (by decide)
  refine CT.of rfl (Nat.le_of_ble_eq_true rfl) ?_
  refine x_iload_n dX11_agree_0 rfl rfl ?_
  refine x_cS1 dX11_agree_1 ls_X11_316 rfl  (c_X11_isReader ?_)
  refine x_if_eq_b (tgt := 37) dX11_agree_4 (by decide) (fun h4 => ?_) (fun h4 => ?_)
  · refine x_iconst (v := -1) dX11_agree_37 (by decide) ?_
    exact x_ireturn dX11_agree_38 rfl rfl (fan_f (hq κ ⟨rfl, fun _ _ => rfl⟩) (fun z => by first | exact h4 z.1 | exact h11 z.2.1 | exact z.2.2.1 h16 | exact h24 z.2.2.2.1 | exact h34 z.2.2.2.2))
  · refine x_iload_n dX11_agree_7 rfl rfl ?_
    refine x_cS1 dX11_agree_8 ls_X11_316 rfl  (c_X11_isReader ?_)
    refine x_if_eq_b (tgt := 37) dX11_agree_11 (by decide) (fun h11 => ?_) (fun h11 => ?_)
    · refine x_iconst (v := -1) dX11_agree_37 (by decide) ?_
      exact x_ireturn dX11_agree_38 rfl rfl (fan_f (hq κ ⟨rfl, fun _ _ => rfl⟩) (fun z => by first | exact h4 z.1 | exact h11 z.2.1 | exact z.2.2.1 h16 | exact h24 z.2.2.2.1 | exact h34 z.2.2.2.2))
    · refine x_iload_n dX11_agree_14 rfl rfl ?_
      refine x_iload_n dX11_agree_15 rfl rfl ?_
      refine x_icmp_eq (tgt := 37) dX11_agree_16 (by decide) (fun h16 => ?_) (fun h16 => ?_)
      · refine x_iconst (v := -1) dX11_agree_37 (by decide) ?_
        exact x_ireturn dX11_agree_38 rfl rfl (fan_f (hq κ ⟨rfl, fun _ _ => rfl⟩) (fun z => by first | exact h4 z.1 | exact h11 z.2.1 | exact z.2.2.1 h16 | exact h24 z.2.2.2.1 | exact h34 z.2.2.2.2))
      · refine x_aload_n dX11_agree_19 rfl rfl ?_
        refine x_iload_n dX11_agree_20 rfl rfl ?_
        refine x_cV1 dX11_agree_21 lv_X11_158 (kc hi kf_0) rfl rfl rfl  (c_X11_isKnownDay hW' ?_)
        refine x_if_eq_b (tgt := 37) dX11_agree_24 (by decide) (fun h24 => ?_) (fun h24 => ?_)
        · refine x_iconst (v := -1) dX11_agree_37 (by decide) ?_
          exact x_ireturn dX11_agree_38 rfl rfl (fan_f (hq κ ⟨rfl, fun _ _ => rfl⟩) (fun z => by first | exact h4 z.1 | exact h11 z.2.1 | exact z.2.2.1 h16 | exact h24 z.2.2.2.1 | exact h34 z.2.2.2.2))
        · refine x_iload dX11_agree_27 rfl ?_
          refine x_iconst (v := 0) dX11_agree_29 (by decide) ?_
          refine x_iconst (v := 1) dX11_agree_30 (by decide) ?_
          refine x_cS3 dX11_agree_31 ls_X11_92 rfl  (c_X11_isWithin ?_)
          refine x_if_ne_b (tgt := 39) dX11_agree_34 (by decide) (fun h34 => ?_) (fun h34 => ?_)
          · refine x_aload_n dX11_agree_39 rfl rfl ?_
            refine x_iload_n dX11_agree_40 rfl rfl ?_
            refine x_cV1 dX11_agree_41 lv_X11_322 (kc hi kf_0) rfl rfl rfl  (c_X11_layMarks hW' hM ?_)
            intro κ' hkm hrow
            obtain ⟨r, hr, rfl⟩ := of_le (n := 5) h4.1 h4.2 rfl (by decide)
            obtain ⟨s, hs, rfl⟩ := of_le (n := 5) h11.1 h11.2 rfl (by decide)
            have hr6 : r < 6 := by omega
            have hs6 : s < 6 := by omega
            have hclr : (nI r).toNatClampNeg = r := nI_clamp (by omega)
            have hcls : (nI s).toNatClampNeg = s := nI_clamp (by omega)
            have h2 := fan_t (hq κ' hkm) ⟨h4, h11, h16, h24, h34⟩
            obtain ⟨w', hw', rfl⟩ := of_le (n := 1) h34.1 h34.2 rfl (by decide)
            refine x_iconst (v := 0) dX11_agree_44 (by decide) ?_
            refine x_istore dX11_agree_45 (by decide) ?_
            refine x_iconst (v := 0) dX11_agree_47 (by decide) ?_
            refine x_istore dX11_agree_48 (by decide) ?_
            refine x_iconst (v := 0) dX11_agree_50 (by decide) ?_
            refine x_istore dX11_agree_51 (by decide) ?_
            refine x_loc [(0, .ref (τ 0)), (1, .int (nI r)), (2, .int (nI s)), (4, .int (nI w')), (5, .int (spAgree σ (nI r) (nI s) q 1 0)), (6, .int (spAgree σ (nI r) (nI s) q 0 0)), (7, .int (nI 0))] ⟨rfl, rfl, rfl, rfl, rfl, rfl, rfl, trivial⟩ ?_
            refine loop_up (P := fun i => XJ G (d + 4) (0, 0) MX11_agree (cm τ κ' Md) [(0, .ref (τ 0)), (1, .int (nI r)), (2, .int (nI s)), (4, .int (nI w')), (5, .int (spAgree σ (nI r) (nI s) q 1 i)), (6, .int (spAgree σ (nI r) (nI s) q 0 i)), (7, .int (nI i))] [] 53 Q) (n := cn σ 16) ?_ ?_ 0 (Nat.zero_le _)
            · refine x_iload dX11_agree_53 rfl ?_
              refine x_aload_n dX11_agree_55 rfl rfl ?_
              refine x_getf dX11_agree_56 lf_X11_16 (kc hi kf_0) kv_0_2 ?_
              refine x_cV0 dX11_agree_59 lv_X11_100 (hD.lc 2 li_2) rfl rfl rfl (c_lsz_2 hD ?_)
              refine x_icmp_ge (tgt := 125) dX11_agree_62 (by decide) (fun _ => ?_) (fun z => absurd (loopT rfl) z)
              refine x_iload dX11_agree_125 rfl ?_
              refine x_if_ne (tgt := 135) dX11_agree_127 (by decide) (fun h127 => ?_) (fun h127 => ?_)
              · refine x_iload dX11_agree_135 rfl ?_
                exact x_ireturn dX11_agree_137 rfl rfl (by
rcases Nat.eq_zero_or_pos w' with e | e
· subst e
  first
  | exact h2
  | exact absurd rfl h127
· obtain rfl : w' = 1 := by omega
  first
  | exact h2
  | exact absurd h127 (by decide))
              · refine x_iload dX11_agree_130 rfl ?_
                refine x_goto (tgt := 137) dX11_agree_132 (by decide) ?_
                exact x_ireturn dX11_agree_137 rfl rfl (by
rcases Nat.eq_zero_or_pos w' with e | e
· subst e
  first
  | exact h2
  | exact absurd rfl h127
· obtain rfl : w' = 1 := by omega
  first
  | exact h2
  | exact absurd h127 (by decide))
            · intro i hlt ih
              have es : ∀ w : Int32, spAgree σ (nI r) (nI s) q w (i + 1) = if mk σ q (nI r) i ≠ -1 ∧ mk σ q (nI s) i ≠ -1 ∧ (w = 1 ∨ mk σ q (nI r) i = mk σ q (nI s) i) then spAgree σ (nI r) (nI s) q w i + 1 else spAgree σ (nI r) (nI s) q w i := fun _ => rfl
              have hcli : (nI i).toNatClampNeg = i := nI_clamp (by omega)
              refine x_iload dX11_agree_53 rfl ?_
              refine x_aload_n dX11_agree_55 rfl rfl ?_
              refine x_getf dX11_agree_56 lf_X11_16 (kc hi kf_0) kv_0_2 ?_
              refine x_cV0 dX11_agree_59 lv_X11_100 (hD.lc 2 li_2) rfl rfl rfl (c_lsz_2 hD ?_)
              refine x_icmp_ge (tgt := 125) dX11_agree_62 (by decide) (fun z => absurd z (loopF rfl hlt (by omega))) (fun _ => ?_)
              refine x_aload_n dX11_agree_65 rfl rfl ?_
              refine x_getf dX11_agree_66 lf_X11_60 (kc hi kf_0) kv_0_12 ?_
              refine x_iload_n dX11_agree_69 rfl rfl ?_
              refine x_aaload dX11_agree_70 (Or.inl rfl) (kc hi kf_12) (vp_in_nI hr6 (by decide)) (show kV _ _ 12 _ = .ref (τ (40 + r)) by rw [hclr]; rfl) ?_
              refine x_iload dX11_agree_71 rfl ?_
              refine xk_iald (40 + r) dX11_agree_73 (kf_m r hr6) (kr_m r hr6) hi (vp_in_nI (by omega) (by decide)) hcli ?_
              rw [hrow r i hr6 (by omega)]
              refine x_istore dX11_agree_74 (by decide) ?_
              refine x_aload_n dX11_agree_76 rfl rfl ?_
              refine x_getf dX11_agree_77 lf_X11_60 (kc hi kf_0) kv_0_12 ?_
              refine x_iload_n dX11_agree_80 rfl rfl ?_
              refine x_aaload dX11_agree_81 (Or.inl rfl) (kc hi kf_12) (vp_in_nI hs6 (by decide)) (show kV _ _ 12 _ = .ref (τ (40 + s)) by rw [hcls]; rfl) ?_
              refine x_iload dX11_agree_82 rfl ?_
              refine xk_iald (40 + s) dX11_agree_84 (kf_m s hs6) (kr_m s hs6) hi (vp_in_nI (by omega) (by decide)) hcli ?_
              rw [hrow s i hs6 (by omega)]
              refine x_istore dX11_agree_85 (by decide) ?_
              refine x_iload dX11_agree_87 rfl ?_
              refine x_iconst (v := -1) dX11_agree_89 (by decide) ?_
              refine x_icmp_eq (tgt := 119) dX11_agree_90 (by decide) (fun h90 => ?_) (fun h90 => ?_)
              · refine x_iinc (c := 1) dX11_agree_119 rfl (by decide) ?_
                refine x_goto (tgt := 53) dX11_agree_122 (by decide) ?_
                refine x_loc _ (?_ : lle _ _) ih
                refine ⟨rfl, rfl, rfl, rfl, ?_, ?_, ?_, trivial⟩
                · show some (Value.int _) = some (Value.int _)
                  rw [es]
                  first
                  | rw [if_neg (fun z => by first | exact z.1 h90 | exact z.2.1 h96)]
                  | rw [if_pos ⟨h90, h96, Or.inl rfl⟩]
                · show some (Value.int _) = some (Value.int _)
                  rw [es]
                  first
                  | rw [if_neg (fun z => by first | exact z.1 h90 | exact z.2.1 h96)]
                  | (have hz : ¬ mk σ q (nI r) i = mk σ q (nI s) i := h108; rw [if_neg (fun z => z.2.2.elim (fun e => absurd e (by decide)) hz)]; first | done | rw [Int32.add_zero] | simp)
                  | (have hz : mk σ q (nI r) i = mk σ q (nI s) i := h108; rw [if_pos ⟨h90, h96, Or.inr hz⟩])
                · show some (Value.int _) = some (Value.int (nI (i + 1)))
                  rw [← nI_1]
              · refine x_iload dX11_agree_93 rfl ?_
                refine x_iconst (v := -1) dX11_agree_95 (by decide) ?_
                refine x_icmp_eq (tgt := 119) dX11_agree_96 (by decide) (fun h96 => ?_) (fun h96 => ?_)
                · refine x_iinc (c := 1) dX11_agree_119 rfl (by decide) ?_
                  refine x_goto (tgt := 53) dX11_agree_122 (by decide) ?_
                  refine x_loc _ (?_ : lle _ _) ih
                  refine ⟨rfl, rfl, rfl, rfl, ?_, ?_, ?_, trivial⟩
                  · show some (Value.int _) = some (Value.int _)
                    rw [es]
                    first
                    | rw [if_neg (fun z => by first | exact z.1 h90 | exact z.2.1 h96)]
                    | rw [if_pos ⟨h90, h96, Or.inl rfl⟩]
                  · show some (Value.int _) = some (Value.int _)
                    rw [es]
                    first
                    | rw [if_neg (fun z => by first | exact z.1 h90 | exact z.2.1 h96)]
                    | (have hz : ¬ mk σ q (nI r) i = mk σ q (nI s) i := h108; rw [if_neg (fun z => z.2.2.elim (fun e => absurd e (by decide)) hz)]; first | done | rw [Int32.add_zero] | simp)
                    | (have hz : mk σ q (nI r) i = mk σ q (nI s) i := h108; rw [if_pos ⟨h90, h96, Or.inr hz⟩])
                  · show some (Value.int _) = some (Value.int (nI (i + 1)))
                    rw [← nI_1]
                · refine x_iinc (c := 1) dX11_agree_99 rfl (by decide) ?_
                  refine x_iload dX11_agree_102 rfl ?_
                  refine x_iload dX11_agree_104 rfl ?_
                  refine x_iload dX11_agree_106 rfl ?_
                  refine x_icmp_ne (tgt := 115) dX11_agree_108 (by decide) (fun h108 => ?_) (fun h108 => ?_)
                  · refine x_iconst (v := 0) dX11_agree_115 (by decide) ?_
                    refine x_iadd dX11_agree_116 ?_
                    refine x_istore dX11_agree_117 (by decide) ?_
                    refine x_iinc (c := 1) dX11_agree_119 rfl (by decide) ?_
                    refine x_goto (tgt := 53) dX11_agree_122 (by decide) ?_
                    refine x_loc _ (?_ : lle _ _) ih
                    refine ⟨rfl, rfl, rfl, rfl, ?_, ?_, ?_, trivial⟩
                    · show some (Value.int _) = some (Value.int _)
                      rw [es]
                      first
                      | rw [if_neg (fun z => by first | exact z.1 h90 | exact z.2.1 h96)]
                      | rw [if_pos ⟨h90, h96, Or.inl rfl⟩]
                    · show some (Value.int _) = some (Value.int _)
                      rw [es]
                      first
                      | rw [if_neg (fun z => by first | exact z.1 h90 | exact z.2.1 h96)]
                      | (have hz : ¬ mk σ q (nI r) i = mk σ q (nI s) i := h108; rw [if_neg (fun z => z.2.2.elim (fun e => absurd e (by decide)) hz)]; first | done | rw [Int32.add_zero] | simp)
                      | (have hz : mk σ q (nI r) i = mk σ q (nI s) i := h108; rw [if_pos ⟨h90, h96, Or.inr hz⟩])
                    · show some (Value.int _) = some (Value.int (nI (i + 1)))
                      rw [← nI_1]
                  · refine x_iconst (v := 1) dX11_agree_111 (by decide) ?_
                    refine x_goto (tgt := 116) dX11_agree_112 (by decide) ?_
                    refine x_iadd dX11_agree_116 ?_
                    refine x_istore dX11_agree_117 (by decide) ?_
                    refine x_iinc (c := 1) dX11_agree_119 rfl (by decide) ?_
                    refine x_goto (tgt := 53) dX11_agree_122 (by decide) ?_
                    refine x_loc _ (?_ : lle _ _) ih
                    refine ⟨rfl, rfl, rfl, rfl, ?_, ?_, ?_, trivial⟩
                    · show some (Value.int _) = some (Value.int _)
                      rw [es]
                      first
                      | rw [if_neg (fun z => by first | exact z.1 h90 | exact z.2.1 h96)]
                      | rw [if_pos ⟨h90, h96, Or.inl rfl⟩]
                    · show some (Value.int _) = some (Value.int _)
                      rw [es]
                      first
                      | rw [if_neg (fun z => by first | exact z.1 h90 | exact z.2.1 h96)]
                      | (have hz : ¬ mk σ q (nI r) i = mk σ q (nI s) i := h108; rw [if_neg (fun z => z.2.2.elim (fun e => absurd e (by decide)) hz)]; first | done | rw [Int32.add_zero] | simp)
                      | (have hz : mk σ q (nI r) i = mk σ q (nI s) i := h108; rw [if_pos ⟨h90, h96, Or.inr hz⟩])
                    · show some (Value.int _) = some (Value.int (nI (i + 1)))
                      rw [← nI_1]
          · refine x_iconst (v := -1) dX11_agree_37 (by decide) ?_
            exact x_ireturn dX11_agree_38 rfl rfl (fan_f (hq κ ⟨rfl, fun _ _ => rfl⟩) (fun z => by first | exact h4 z.1 | exact h11 z.2.1 | exact z.2.2.1 h16 | exact h24 z.2.2.2.1 | exact h34 z.2.2.2.2))
theorem c_X11_readersGiving {l : Nat} {v q : Int32} {κ' : MS} (hi : adOK τ) (hl : l < 200) (hrow : ∀ r l, r < 6 → l < 200 → κ'.2 (40 + r) l = mk σ q (nI r) l) (hq : Q (some (.int (spHav σ q v l 6))) (cm τ κ' Md)) : CT G d (0, 0) MX11_readersGiving [.ref (τ 0), .int (nI l), .int v] (cm τ κ' Md) Q := by
  have hcll : (nI l).toNatClampNeg = l := nI_clamp (by omega)
  refine CT.of rfl (Nat.le_of_ble_eq_true rfl) ?_
  refine x_iconst (v := 0) dX11_readersGiving_0 (by decide) ?_
  refine x_istore_n dX11_readersGiving_1 rfl (by decide) ?_
  refine x_iconst (v := 0) dX11_readersGiving_2 (by decide) ?_
  refine x_istore dX11_readersGiving_3 (by decide) ?_
  refine x_loc [(0, .ref (τ 0)), (1, .int (nI l)), (2, .int v), (3, .int (spHav σ q v l 0)), (4, .int (nI 0))] ⟨rfl, rfl, rfl, rfl, rfl, trivial⟩ ?_
  refine loop_up (P := fun i => XJ G d (0, 0) MX11_readersGiving (cm τ κ' Md) [(0, .ref (τ 0)), (1, .int (nI l)), (2, .int v), (3, .int (spHav σ q v l i)), (4, .int (nI i))] [] 5 Q) (n := 6) ?_ ?_ 0 (Nat.zero_le _)
  · refine x_iload dX11_readersGiving_5 rfl ?_
    refine x_bipush (v := 6) dX11_readersGiving_7 (by decide) ?_
    refine x_icmp_ge (tgt := 34) dX11_readersGiving_9 (by decide) (fun _ => ?_) (fun z => absurd (loopT (show (6 : Int32) = nI 6 from rfl)) z)
    refine x_iload_n dX11_readersGiving_34 rfl rfl ?_
    exact x_ireturn dX11_readersGiving_35 rfl rfl (hq)
  · intro i hlt ih
    have es : spHav σ q v l (i + 1) = if mk σ q (nI i) l = v then spHav σ q v l i + 1 else spHav σ q v l i := rfl
    have hcl : (nI i).toNatClampNeg = i := nI_clamp (by omega)
    refine x_iload dX11_readersGiving_5 rfl ?_
    refine x_bipush (v := 6) dX11_readersGiving_7 (by decide) ?_
    refine x_icmp_ge (tgt := 34) dX11_readersGiving_9 (by decide) (fun z => absurd z (loopF (show (6 : Int32) = nI 6 from rfl) hlt (by omega))) (fun _ => ?_)
    refine x_aload_n dX11_readersGiving_12 rfl rfl ?_
    refine x_getf dX11_readersGiving_13 lf_X11_60 (kc hi kf_0) kv_0_12 ?_
    refine x_iload dX11_readersGiving_16 rfl ?_
    refine x_aaload dX11_readersGiving_18 (Or.inl rfl) (kc hi kf_12) (vp_in_nI hlt (by decide)) (show kV _ _ 12 _ = .ref (τ (40 + i)) by rw [hcl]; rfl) ?_
    refine x_iload_n dX11_readersGiving_19 rfl rfl ?_
    refine xk_iald (40 + i) dX11_readersGiving_20 (kf_m i hlt) (kr_m i hlt) hi (vp_in_nI hl (by decide)) hcll ?_
    rw [hrow i l hlt hl]
    refine x_iload_n dX11_readersGiving_21 rfl rfl ?_
    refine x_icmp_ne (tgt := 28) dX11_readersGiving_22 (by decide) (fun h22 => ?_) (fun h22 => ?_)
    · refine x_iinc (c := 1) dX11_readersGiving_28 rfl (by decide) ?_
      refine x_goto (tgt := 5) dX11_readersGiving_31 (by decide) ?_
      refine x_loc _ (?_ : lle _ _) ih
      refine ⟨rfl, rfl, rfl, ?_, ?_, trivial⟩
      · show some (Value.int _) = some (Value.int _)
        rw [es]
        first | rw [if_neg h22] | rw [if_pos h22]
      · show some (Value.int _) = some (Value.int (nI (i + 1)))
        rw [← nI_1]
    · refine x_iinc (c := 1) dX11_readersGiving_25 rfl (by decide) ?_
      refine x_iinc (c := 1) dX11_readersGiving_28 rfl (by decide) ?_
      refine x_goto (tgt := 5) dX11_readersGiving_31 (by decide) ?_
      refine x_loc _ (?_ : lle _ _) ih
      refine ⟨rfl, rfl, rfl, ?_, ?_, trivial⟩
      · show some (Value.int _) = some (Value.int _)
        rw [es]
        first | rw [if_neg h22] | rw [if_pos h22]
      · show some (Value.int _) = some (Value.int (nI (i + 1)))
        rw [← nI_1]
/-- a line told later has no mark yet -/
theorem mk_late {σ : MS} (hM : MkI σ) {l : Nat} {q : Int32} (hl : l < 2 ^ 31) (h : q < σ.2 14 l) (r : Int32) : mk σ q r l = -1 := by
  have H : ∀ n, n ≤ cn σ 49 → spMark σ r (nI l) q n = -1 := by
    intro n
    induction n with
    | zero => intro _; rfl
    | succ n ih =>
      intro hn
      rw [spMark_s, if_neg (fun z => ?_), ih (by omega)]
      obtain ⟨-, -, m3⟩ := hM n hn
      rw [z.2.1, nI_clamp hl] at m3
      exact absurd (Int32.le_trans m3 z.2.2) (Int32.not_le.mpr h)
  exact H _ (Nat.le_refl _)
theorem held_late {σ : MS} (hM : MkI σ) {l : Nat} {q : Int32} (hl : l < 2 ^ 31) (h : q < σ.2 14 l) : ∀ n, n ≤ 10 → spHeld σ q l n = (-1, 1)
  | 0, _ => rfl
  | n + 1, hn => by
    have es : spHeld σ q l (n + 1) = if (spHeld σ q l n).2 < spHav σ q (nI n) l 6 then (nI n, spHav σ q (nI n) l 6) else spHeld σ q l n := rfl
    have hv : ∀ m, spHav σ q (nI n) l m = 0 := by
      intro m
      induction m with
      | zero => rfl
      | succ m ihm =>
        have e2 : spHav σ q (nI n) l (m + 1) = if mk σ q (nI m) l = nI n then spHav σ q (nI n) l m + 1 else spHav σ q (nI n) l m := rfl
        rw [e2, mk_late hM hl h, if_neg (fun z => nI_n1 (by omega) z.symm), ihm]
    rw [es, held_late hM hl h n (by omega), hv]
    exact if_neg (by decide)
theorem c_X11_held {l q : Int32} (hW : Wld G τ ω ε σ κ Md) (hM : MkI σ) (hq : ∀ κ', KM κ κ' → Q (some (.int (aHeld σ l q))) (cm τ κ' Md)) : CT G (d + 4) (0, 0) MX11_held [.ref (τ 0), .int l, .int q] (cm τ κ Md) Q := by
  have hW' := hW
  obtain ⟨hi, hc, hD, hK⟩ := hW
  obtain ⟨hn1, hn2⟩ := hc.b 16 (b := 200) (by decide)
  refine CT.of rfl (Nat.le_of_ble_eq_true rfl) ?_
  refine x_aload_n dX11_held_0 rfl rfl ?_
  refine x_iload_n dX11_held_1 rfl rfl ?_
  refine x_cV1 dX11_held_2 lv_X11_136 (kc hi kf_0) rfl rfl rfl  (c_X11_isLine hW' ?_)
  refine x_if_eq_b (tgt := 16) dX11_held_5 (by decide) (fun h5 => ?_) (fun h5 => ?_)
  · refine x_iconst (v := -1) dX11_held_16 (by decide) ?_
    exact x_ireturn dX11_held_17 rfl rfl (fan_f (hq κ ⟨rfl, fun _ _ => rfl⟩) (fun z => by first | exact h5 z.1 | exact h13 z.2.1))
  · refine x_aload_n dX11_held_8 rfl rfl ?_
    refine x_iload_n dX11_held_9 rfl rfl ?_
    refine x_cV1 dX11_held_10 lv_X11_158 (kc hi kf_0) rfl rfl rfl  (c_X11_isKnownDay hW' ?_)
    refine x_if_ne_b (tgt := 18) dX11_held_13 (by decide) (fun h13 => ?_) (fun h13 => ?_)
    · refine x_aload_n dX11_held_18 rfl rfl ?_
      refine x_iload_n dX11_held_19 rfl rfl ?_
      refine x_cV1 dX11_held_20 lv_X11_322 (kc hi kf_0) rfl rfl rfl  (c_X11_layMarks hW' hM ?_)
      intro κ' hkm hrow
      obtain ⟨l', hl', rfl⟩ := of_lt h5.1 h5.2 hn1 (by omega)
      have hcll : (nI l').toNatClampNeg = l' := nI_clamp (by omega)
      have h2 : Q (some (.int (spHeld σ q l' 10).1)) (cm τ κ' Md) := by
        by_cases z : σ.2 14 l' ≤ q
        · have := fan_t (hq κ' hkm) (show isLB σ (nI l') q from ⟨h5, h13, by rw [hcll]; exact z⟩)
          rw [hcll] at this; exact this
        · have := fan_f (hq κ' hkm) (show ¬ isLB σ (nI l') q from fun y => z (by have := y.2.2; rw [hcll] at this; exact this))
          rw [held_late hM (by omega) (Int32.not_le.mp z) 10 (Nat.le_refl _)]; exact this
      refine x_iconst (v := -1) dX11_held_23 (by decide) ?_
      refine x_istore_n dX11_held_24 rfl (by decide) ?_
      refine x_iconst (v := 1) dX11_held_25 (by decide) ?_
      refine x_istore dX11_held_26 (by decide) ?_
      refine x_iconst (v := 0) dX11_held_28 (by decide) ?_
      refine x_istore dX11_held_29 (by decide) ?_
      refine x_loc [(0, .ref (τ 0)), (1, .int (nI l')), (3, .int (spHeld σ q l' 0).1), (4, .int (spHeld σ q l' 0).2), (5, .int (nI 0))] ⟨rfl, rfl, rfl, rfl, rfl, trivial⟩ ?_
      refine loop_up (P := fun i => XJ G (d + 4) (0, 0) MX11_held (cm τ κ' Md) [(0, .ref (τ 0)), (1, .int (nI l')), (3, .int (spHeld σ q l' i).1), (4, .int (spHeld σ q l' i).2), (5, .int (nI i))] [] 31 Q) (n := 10) ?_ ?_ 0 (Nat.zero_le _)
      · refine x_iload dX11_held_31 rfl ?_
        refine x_bipush (v := 9) dX11_held_33 (by decide) ?_
        refine x_icmp_gt (tgt := 67) dX11_held_35 (by decide) (fun _ => ?_) (fun z => absurd (by decide) z)
        refine x_iload_n dX11_held_67 rfl rfl ?_
        exact x_ireturn dX11_held_68 rfl rfl (h2)
      · intro i hlt ih
        have es : spHeld σ q l' (i + 1) = if (spHeld σ q l' i).2 < spHav σ q (nI i) l' 6 then (nI i, spHav σ q (nI i) l' 6) else spHeld σ q l' i := rfl
        refine x_iload dX11_held_31 rfl ?_
        refine x_bipush (v := 9) dX11_held_33 (by decide) ?_
        refine x_icmp_gt (tgt := 67) dX11_held_35 (by decide) (fun z => absurd z (Int32.not_lt.mpr (nI_le (b := 9) (by omega) (by decide)))) (fun _ => ?_)
        refine x_aload_n dX11_held_38 rfl rfl ?_
        refine x_iload_n dX11_held_39 rfl rfl ?_
        refine x_iload dX11_held_40 rfl ?_
        refine x_cV2 dX11_held_42 lv_X11_339 (kc hi kf_0) rfl rfl rfl  (c_X11_readersGiving (q := q) hi (by omega) hrow ?_)
        refine x_istore dX11_held_45 (by decide) ?_
        refine x_iload dX11_held_47 rfl ?_
        refine x_iload dX11_held_49 rfl ?_
        refine x_icmp_le (tgt := 61) dX11_held_51 (by decide) (fun h51 => ?_) (fun h51 => ?_)
        · refine x_iinc (c := 1) dX11_held_61 rfl (by decide) ?_
          refine x_goto (tgt := 31) dX11_held_64 (by decide) ?_
          refine x_loc _ (?_ : lle _ _) ih
          refine ⟨rfl, rfl, ?_, ?_, ?_, trivial⟩
          · show some (Value.int _) = some (Value.int _)
            rw [es]
            first | rw [if_neg (Int32.not_lt.mpr h51)] | rw [if_pos (Int32.not_le.mp h51)]
          · show some (Value.int _) = some (Value.int _)
            rw [es]
            first | rw [if_neg (Int32.not_lt.mpr h51)] | rw [if_pos (Int32.not_le.mp h51)]
          · show some (Value.int _) = some (Value.int (nI (i + 1)))
            rw [← nI_1]
        · refine x_iload dX11_held_54 rfl ?_
          refine x_istore dX11_held_56 (by decide) ?_
          refine x_iload dX11_held_58 rfl ?_
          refine x_istore_n dX11_held_60 rfl (by decide) ?_
          refine x_iinc (c := 1) dX11_held_61 rfl (by decide) ?_
          refine x_goto (tgt := 31) dX11_held_64 (by decide) ?_
          refine x_loc _ (?_ : lle _ _) ih
          refine ⟨rfl, rfl, ?_, ?_, ?_, trivial⟩
          · show some (Value.int _) = some (Value.int _)
            rw [es]
            first | rw [if_neg (Int32.not_lt.mpr h51)] | rw [if_pos (Int32.not_le.mp h51)]
          · show some (Value.int _) = some (Value.int _)
            rw [es]
            first | rw [if_neg (Int32.not_lt.mpr h51)] | rw [if_pos (Int32.not_le.mp h51)]
          · show some (Value.int _) = some (Value.int (nI (i + 1)))
            rw [← nI_1]
    · refine x_iconst (v := -1) dX11_held_16 (by decide) ?_
      exact x_ireturn dX11_held_17 rfl rfl (fan_f (hq κ ⟨rfl, fun _ _ => rfl⟩) (fun z => by first | exact h5 z.1 | exact h13 z.2.1))
end CLE
