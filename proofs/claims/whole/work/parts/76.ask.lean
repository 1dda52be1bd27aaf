/-! the class, 24: worthOf, the letters of a person, asked -/
def KX (κ κ' : MS) : Prop := (∀ k, ¬ k = 141 → κ'.1 k = κ.1 k) ∧ ∀ r, ¬ r = 13 → ¬ r = 19 → κ'.2 r = κ.2 r
theorem KX.rf {κ : MS} : KX κ κ := ⟨fun _ _ => rfl, fun _ _ _ => rfl⟩
theorem KX.tr {a b c : MS} (h1 : KX a b) (h2 : KX b c) : KX a c := ⟨fun k x => (h2.1 k x).trans (h1.1 k x), fun r x y => (h2.2 r x y).trans (h1.2 r x y)⟩
theorem KX.n {κ κ' : MS} (h : KN κ κ') : KX κ κ' := ⟨h.1, fun r _ y => h.2 r y⟩
theorem KX.a {κ κ' : MS} {i : Nat} {v : Int32} (h : KX κ κ') : KX κ (seta κ' 13 i v) := ⟨h.1, fun r x y => (seta_ne x).trans (h.2 r x y)⟩
theorem KX.f {κ κ' : MS} {n : Nat} {v : Int32} (h : KX κ κ') : KX κ (filR κ' 13 n v) := ⟨h.1, fun r x y => (filR_ne x).trans (h.2 r x y)⟩
theorem Kap_KX {σ κ κ' : MS} (h : KX κ κ') (hK : Kap σ κ) : Kap σ κ' := by
  obtain ⟨h1, h2, h3, ⟨t1, t2, t3, t4⟩, h5⟩ := hK
  unfold Kap TabK
  rw [h.1 0 (by decide), h.1 81 (by decide), h.1 92 (by decide), h.1 95 (by decide), h.2 17 (by decide) (by decide), h.2 20 (by decide) (by decide), h.2 21 (by decide) (by decide), h.2 22 (by decide) (by decide), h.2 23 (by decide) (by decide)]
  exact ⟨h1, h2, h3, ⟨t1, t2, t3, t4⟩, fun p s hp hs => by rw [h.2 (30 + p) (by omega) (by omega)]; exact h5 p s hp hs⟩
theorem Wld_KX {G : Gam} {τ : Nat → Nat} {ω : Nat → Nat → Nat} {ε : Nat → Nat} {σ κ κ' : MS} {Md : Mem} (h : KX κ κ') (hW : Wld G τ ω ε σ κ Md) : Wld G τ ω ε σ κ' Md := ⟨hW.1, hW.2.1, hW.2.2.1, Kap_KX h hW.2.2.2⟩
/-- the letters' row -/
def Lr (κ : MS) (l : List Int32) : Prop := l.length = 8 ∧ ∀ i, i < 8 → κ.2 13 i = l.getD i 0
theorem LtK_of {κ : MS} {a p w t k m e r : Int32} (h : Lr κ [a, p, w, t, k, m, e, r]) : LtK κ (lt8 a p w t k m e r) := by
  intro c hc
  rcases let_mem hc with z | z | z | z | z | z | z | z <;> subst z
  · exact (h.2 0 (by decide))
  · exact (h.2 1 (by decide))
  · exact (h.2 2 (by decide))
  · exact (h.2 3 (by decide))
  · exact (h.2 4 (by decide))
  · exact (h.2 5 (by decide))
  · exact (h.2 6 (by decide))
  · exact (h.2 7 (by decide))
theorem Lr.st {κ : MS} {l : List Int32} (h : Lr κ l) {i : Nat} {v : Int32} (hi : i < 8) : Lr (seta κ 13 i v) (l.set i v) := by
  refine ⟨by rw [List.length_set]; exact h.1, fun j hj => ?_⟩
  rw [seta_eq, List.getD_eq_getElem?_getD, List.getElem?_set]
  by_cases e : j = i
  · subst e
    rw [updB_eq, if_pos rfl, if_pos (by rw [h.1]; exact hj)]; rfl
  · rw [updB_ne e, if_neg (fun y => e y.symm), ← List.getD_eq_getElem?_getD]
    exact h.2 j hj
/-- the rule's literals -/
def RLit (G : Gam) : Prop := ZCom G ∧ Lit G RX6 47 pLetters ∧ Lit G RX6 27 pLabels
/-- the rules' codes are such as the reader makes -/
def CdI (σ : MS) : Prop := ∀ r, r < cn σ 25 → (codS σ r).length ≤ 160 ∧ ∀ c ∈ codS σ r, -200 ≤ c
section ASK
variable {G : Gam} {d : Nat} {τ : Nat → Nat} {ω : Nat → Nat → Nat} {ε : Nat → Nat} {σ κ : MS} {Md : Mem} {M : Mem} {Q : Option Value → Mem → Prop} {k : Nat}
theorem c_X11_worthOf {lb day q : Int32} {L : Int32 → Int32} (hW : Wld G τ ω ε σ κ Md) (hl : RLit G) (hC : CdI σ) (hL : LtK κ L) (hq : ∀ κ', KX κ κ' → Q (some (.int (wrth σ L day q lb))) (cm τ κ' Md)) : CT G (d + 6) (0, 0) MX11_worthOf [.ref (τ 0), .int lb, .int (spRule σ day q (cn σ 25))] (cm τ κ Md) Q := by
  obtain ⟨hi, hc, hD, hK⟩ := hW
  obtain ⟨e1, e2⟩ := hc.b 25 (b := 20) (by decide)
  unfold wrth at hq
  refine CT.of rfl (Nat.le_of_ble_eq_true rfl) ?_
  rcases spRule_cases (σ := σ) (day := day) (q := q) (cn σ 25) with h | ⟨j, hj, h⟩
  · rw [h]
    rw [h, if_pos rfl] at hq
    refine x_iload_n dX11_worthOf_0 rfl rfl ?_
    refine x_iconst (v := 0) dX11_worthOf_1 (by decide) ?_
    refine x_aload_n dX11_worthOf_2 rfl rfl ?_
    refine x_getf dX11_worthOf_3 lf_X11_22 (kc hi kf_0) kv_0_4 ?_
    refine x_cV0 dX11_worthOf_6 lv_X11_100 (hD.lc 4 li_4) rfl rfl rfl (c_lsz_4 hD ?_)
    refine x_iconst (v := 1) dX11_worthOf_9 (by decide) ?_
    refine x_isub dX11_worthOf_10 ?_
    refine x_cS3 dX11_worthOf_11 ls_X11_92 rfl  (c_X11_isWithin ?_)
    refine x_if_ne_b (tgt := 19) dX11_worthOf_14 (by decide) (fun z => absurd z (fun z => absurd z.1 (by decide))) (fun _ => ?_)
    refine x_iconst (v := 0) dX11_worthOf_17 (by decide) ?_
    exact x_ireturn dX11_worthOf_18 rfl rfl (hq κ KX.rf)
  · rw [h]
    rw [h, if_neg (nI_n1 (by omega)), nI_clamp (by omega)] at hq
    refine x_iload_n dX11_worthOf_0 rfl rfl ?_
    refine x_iconst (v := 0) dX11_worthOf_1 (by decide) ?_
    refine x_aload_n dX11_worthOf_2 rfl rfl ?_
    refine x_getf dX11_worthOf_3 lf_X11_22 (kc hi kf_0) kv_0_4 ?_
    refine x_cV0 dX11_worthOf_6 lv_X11_100 (hD.lc 4 li_4) rfl rfl rfl (c_lsz_4 hD ?_)
    refine x_iconst (v := 1) dX11_worthOf_9 (by decide) ?_
    refine x_isub dX11_worthOf_10 ?_
    refine x_cS3 dX11_worthOf_11 ls_X11_92 rfl  (c_X11_isWithin ?_)
    refine x_if_ne_b (tgt := 19) dX11_worthOf_14 (by decide) (fun _ => ?_) (fun z => absurd ⟨nI_pos' (by omega), (le_p1 (by omega)).mpr (nI_lt hj (by omega))⟩ z)
    refine x_aload_n dX11_worthOf_19 rfl rfl ?_
    refine x_getf dX11_worthOf_20 lf_X11_22 (kc hi kf_0) kv_0_4 ?_
    refine x_iload_n dX11_worthOf_23 rfl rfl ?_
    refine x_cV1 dX11_worthOf_24 lv_X11_126 (hD.lc 4 li_4) rfl rfl rfl (c_lget (k := 4) hD li_4 hj ?_)
    refine x_cast (q := (_, _, _)) dX11_worthOf_27 (show vwCl[7]? = some _ from rfl) tb620 (ob_4 hD hj) ?_
    refine x_iload_n dX11_worthOf_30 rfl rfl ?_
    refine x_aload_n dX11_worthOf_31 rfl rfl ?_
    refine x_getf dX11_worthOf_32 lf_X11_71 (kc hi kf_0) kv_0_13 ?_
    refine x_aload_n dX11_worthOf_35 rfl rfl ?_
    refine x_getf dX11_worthOf_36 lf_X11_78 (kc hi kf_0) kv_0_14 ?_
    refine x_cV3 dX11_worthOf_39 lv_X11_204 (ob_4 hD hj) rfl rfl rfl  (c_X6_worth (L := L) hi hl.1 hl.2.1 hl.2.2 hD hj hL (hC j hj).1 (hC j hj).2 (fun κ1 hk1 => ?_))
    exact x_ireturn dX11_worthOf_42 rfl rfl (hq κ1 (KX.n hk1))
theorem c_X11_setPersonLetters {p : Nat} (hW : Wld G τ ω ε σ κ Md) (hp : p < cn σ 15) (hq : ∀ κ', KX κ κ' → Lr κ' [σ.2 3 p, σ.2 2 p, σ.2 4 p, 0, 0, 0, 0, 0] → Q none (cm τ κ' Md)) : CT G (d + 1) (0, 0) MX11_setPersonLetters [.ref (τ 0), .ref (ω 1 p)] (cm τ κ Md) Q := by
  obtain ⟨hi, hc, hD, hK⟩ := hW
  have hz : Lr (filR κ 13 8 0) [0, 0, 0, 0, 0, 0, 0, 0] := ⟨rfl, fun i hi2 => by
    rw [filR_eq]
    show (if i < 8 then (0 : Int32) else _) = _
    rw [if_pos hi2]
    have : i = 0 ∨ i = 1 ∨ i = 2 ∨ i = 3 ∨ i = 4 ∨ i = 5 ∨ i = 6 ∨ i = 7 := by omega
    rcases this with rfl | rfl | rfl | rfl | rfl | rfl | rfl | rfl <;> rfl⟩
  refine CT.of rfl (Nat.le_of_ble_eq_true rfl) ?_
  refine x_aload_n dX11_setPersonLetters_0 rfl rfl ?_
  refine x_getf dX11_setPersonLetters_1 lf_X11_71 (kc hi kf_0) kv_0_13 ?_
  refine x_iconst (v := 0) dX11_setPersonLetters_4 (by decide) ?_
  refine x_cS2 dX11_setPersonLetters_5 ls_X11_216 rfl  (c_J7_fill (r := 13) (n := 8) hi kf_13 rfl (by decide) ?_)
  refine x_aload_n dX11_setPersonLetters_8 rfl rfl ?_
  refine x_getf dX11_setPersonLetters_9 lf_X11_71 (kc hi kf_0) kv_0_13 ?_
  refine x_iconst (v := 0) dX11_setPersonLetters_12 (by decide) ?_
  refine x_aload_n dX11_setPersonLetters_13 rfl rfl ?_
  refine x_getf dX11_setPersonLetters_14 lf_X11_222 (ob_1 hD hp) ov_1_2 ?_
  refine xk_iast 13 dX11_setPersonLetters_17 kf_13 rfl hi (vp_in_nI (n := 0) (N := 8) (by decide) (by decide)) rfl ?_
  refine x_aload_n dX11_setPersonLetters_18 rfl rfl ?_
  refine x_getf dX11_setPersonLetters_19 lf_X11_71 (kc hi kf_0) kv_0_13 ?_
  refine x_iconst (v := 1) dX11_setPersonLetters_22 (by decide) ?_
  refine x_aload_n dX11_setPersonLetters_23 rfl rfl ?_
  refine x_getf dX11_setPersonLetters_24 lf_X11_225 (ob_1 hD hp) ov_1_1 ?_
  refine xk_iast 13 dX11_setPersonLetters_27 kf_13 rfl hi (vp_in_nI (n := 1) (N := 8) (by decide) (by decide)) rfl ?_
  refine x_aload_n dX11_setPersonLetters_28 rfl rfl ?_
  refine x_getf dX11_setPersonLetters_29 lf_X11_71 (kc hi kf_0) kv_0_13 ?_
  refine x_iconst (v := 2) dX11_setPersonLetters_32 (by decide) ?_
  refine x_aload_n dX11_setPersonLetters_33 rfl rfl ?_
  refine x_getf dX11_setPersonLetters_34 lf_X11_228 (ob_1 hD hp) ov_1_3 ?_
  refine xk_iast 13 dX11_setPersonLetters_37 kf_13 rfl hi (vp_in_nI (n := 2) (N := 8) (by decide) (by decide)) rfl ?_
  exact x_return dX11_setPersonLetters_38 rfl (hq _ (((KX.rf.f).a).a).a (((hz.st (i := 0) (v := σ.2 3 p) (by decide)).st (i := 1) (v := σ.2 2 p) (by decide)).st (i := 2) (v := σ.2 4 p) (by decide)))
theorem c_X11_asked {p day sort q : Int32} (hW : Wld G τ ω ε σ κ Md) (hl : RLit G) (hC : CdI σ) (hR : RulD σ) (hq : ∀ κ', KX κ κ' → Q (some (.int (aAsk σ p day sort q))) (cm τ κ' Md)) : CT G (d + 7) (0, 0) MX11_asked [.ref (τ 0), .int p, .int day, .int sort, .int q] (cm τ κ Md) Q := by
  have hW0 := hW
  obtain ⟨hi, hc, hD, hK⟩ := hW
  obtain ⟨e1, e2⟩ := hc.b 15 (b := 24) (by decide)
  have hno : ¬ (isP σ p ∧ isD day ∧ isS sort ∧ isK σ q) → Q (some (.int (-1))) (cm τ κ Md) := fun zz => by
    have h := hq κ KX.rf
    rw [show aAsk σ p day sort q = -1 from cI_f zz] at h
    exact h
  refine CT.of rfl (Nat.le_of_ble_eq_true rfl) ?_
  refine x_aload_n dX11_asked_0 rfl rfl ?_
  refine x_iload_n dX11_asked_1 rfl rfl ?_
  refine x_cV1 dX11_asked_2 lv_X11_112 (kc hi kf_0) rfl rfl rfl  (c_X11_isPerson hW0 ?_)
  refine x_if_eq_b (tgt := 31) dX11_asked_5 (by decide) (fun h5 => ?_) (fun h5 => ?_)
  · refine x_iconst (v := -1) dX11_asked_31 (by decide) ?_
    exact x_ireturn dX11_asked_32 rfl rfl (hno (fun z => by first | exact h5 z.1 | exact h12 z.2.1 | exact h19 z.2.2.1 | exact h28 z.2.2.2))
  · refine x_iload_n dX11_asked_8 rfl rfl ?_
    refine x_cS1 dX11_asked_9 ls_X11_150 rfl  (c_X11_isDay ?_)
    refine x_if_eq_b (tgt := 31) dX11_asked_12 (by decide) (fun h12 => ?_) (fun h12 => ?_)
    · refine x_iconst (v := -1) dX11_asked_31 (by decide) ?_
      exact x_ireturn dX11_asked_32 rfl rfl (hno (fun z => by first | exact h5 z.1 | exact h12 z.2.1 | exact h19 z.2.2.1 | exact h28 z.2.2.2))
    · refine x_iload_n dX11_asked_15 rfl rfl ?_
      refine x_cS1 dX11_asked_16 ls_X11_115 rfl  (c_X11_isSort ?_)
      refine x_if_eq_b (tgt := 31) dX11_asked_19 (by decide) (fun h19 => ?_) (fun h19 => ?_)
      · refine x_iconst (v := -1) dX11_asked_31 (by decide) ?_
        exact x_ireturn dX11_asked_32 rfl rfl (hno (fun z => by first | exact h5 z.1 | exact h12 z.2.1 | exact h19 z.2.2.1 | exact h28 z.2.2.2))
      · refine x_aload_n dX11_asked_22 rfl rfl ?_
        refine x_iload dX11_asked_23 rfl ?_
        refine x_cV1 dX11_asked_25 lv_X11_158 (kc hi kf_0) rfl rfl rfl  (c_X11_isKnownDay hW0 ?_)
        refine x_if_ne_b (tgt := 33) dX11_asked_28 (by decide) (fun h28 => ?_) (fun h28 => ?_)
        · have hok : isP σ p ∧ isD day ∧ isS sort ∧ isK σ q := ⟨h5, h12, h19, h28⟩
          obtain ⟨j, hj, rfl⟩ := of_lt h5.1 h5.2 e1 (by omega)
          have hcl : (nI j).toNatClampNeg = j := nI_clamp (by omega)
          refine x_aload_n dX11_asked_33 rfl rfl ?_
          refine x_aload_n dX11_asked_34 rfl rfl ?_
          refine x_getf dX11_asked_35 lf_X11_10 (kc hi kf_0) kv_0_1 ?_
          refine x_iload_n dX11_asked_38 rfl rfl ?_
          refine x_cV1 dX11_asked_39 lv_X11_126 (hD.lc 1 li_1) rfl rfl rfl (c_lget (k := 1) hD li_1 hj ?_)
          refine x_cast (q := (_, _, _)) dX11_asked_42 (show vwCl[5]? = some _ from rfl) tb237 (ob_1 hD hj) ?_
          refine x_cV1 dX11_asked_45 lv_X11_208 (kc hi kf_0) rfl rfl rfl  (c_X11_setPersonLetters hW0 hj ?_)
          intro κ1 hk1 hr1
          refine x_aload_n dX11_asked_48 rfl rfl ?_
          refine x_getf dX11_asked_49 lf_X11_71 (kc hi kf_0) kv_0_13 ?_
          refine x_iconst (v := 3) dX11_asked_52 (by decide) ?_
          refine x_iload_n dX11_asked_53 rfl rfl ?_
          refine xk_iast 13 dX11_asked_54 kf_13 rfl hi (vp_in_nI (n := 3) (N := 8) (by decide) (by decide)) rfl ?_
          refine x_aload_n dX11_asked_55 rfl rfl ?_
          refine x_getf dX11_asked_56 lf_X11_71 (kc hi kf_0) kv_0_13 ?_
          refine x_iconst (v := 4) dX11_asked_59 (by decide) ?_
          refine x_iload_n dX11_asked_60 rfl rfl ?_
          refine xk_iast 13 dX11_asked_61 kf_13 rfl hi (vp_in_nI (n := 4) (N := 8) (by decide) (by decide)) rfl ?_
          refine x_aload_n dX11_asked_62 rfl rfl ?_
          refine x_bipush (v := 113) dX11_asked_63 (by decide) ?_
          refine x_aload_n dX11_asked_65 rfl rfl ?_
          refine x_iload_n dX11_asked_66 rfl rfl ?_
          refine x_iload dX11_asked_67 rfl ?_
          refine x_cV2 dX11_asked_69 lv_X11_197 (kc hi kf_0) rfl rfl rfl  (c_X11_ruleInForce (Wld_KX ((hk1.a).a) hW0) hR ?_)
          refine x_cV2 dX11_asked_72 lv_X11_212 (kc hi kf_0) rfl rfl rfl  (c_X11_worthOf (Wld_KX ((hk1.a).a) hW0) hl hC (LtK_of ((hr1.st (i := 3) (v := day) (by decide)).st (i := 4) (v := sort) (by decide))) (fun κ2 hk2 => ?_))
          refine x_if_eq (tgt := 82) dX11_asked_75 (by decide) (fun h75 => ?_) (fun h75 => ?_)
          · refine x_iconst (v := 0) dX11_asked_82 (by decide) ?_
            exact x_ireturn dX11_asked_83 rfl rfl ((by
have h := hq κ2 (((hk1.a).a).tr hk2)
have e : aAsk σ (nI j) day sort q = if wrth σ (perL σ j day sort 0 0 0) day q 113 = 0 then 0 else 1 := by
  rw [show aAsk σ (nI j) day sort q = _ from cI_t hok, hcl]
rw [e] at h
first
| (have hz : wrth σ (perL σ j day sort 0 0 0) day q 113 = 0 := h75
   rw [if_pos hz] at h; exact h)
| (have hz : ¬ wrth σ (perL σ j day sort 0 0 0) day q 113 = 0 := h75
   rw [if_neg hz] at h; exact h)))
          · refine x_iconst (v := 1) dX11_asked_78 (by decide) ?_
            refine x_goto (tgt := 83) dX11_asked_79 (by decide) ?_
            exact x_ireturn dX11_asked_83 rfl rfl ((by
have h := hq κ2 (((hk1.a).a).tr hk2)
have e : aAsk σ (nI j) day sort q = if wrth σ (perL σ j day sort 0 0 0) day q 113 = 0 then 0 else 1 := by
  rw [show aAsk σ (nI j) day sort q = _ from cI_t hok, hcl]
rw [e] at h
first
| (have hz : wrth σ (perL σ j day sort 0 0 0) day q 113 = 0 := h75
   rw [if_pos hz] at h; exact h)
| (have hz : ¬ wrth σ (perL σ j day sort 0 0 0) day q 113 = 0 := h75
   rw [if_neg hz] at h; exact h)))
        · refine x_iconst (v := -1) dX11_asked_31 (by decide) ?_
          exact x_ireturn dX11_asked_32 rfl rfl (hno (fun z => by first | exact h5 z.1 | exact h12 z.2.1 | exact h19 z.2.2.1 | exact h28 z.2.2.2))
end ASK
