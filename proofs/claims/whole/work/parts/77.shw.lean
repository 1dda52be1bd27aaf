/-! the class, 25: may a line be shown; shown -/
section SHW
variable {G : Gam} {d : Nat} {τ : Nat → Nat} {ω : Nat → Nat → Nat} {ε : Nat → Nat} {σ κ : MS} {Md : Mem} {M : Mem} {Q : Option Value → Mem → Prop} {k : Nat}
theorem c_X11_mayBeShown {j : Nat} {day rank q : Int32} (hW : Wld G τ ω ε σ κ Md) (hl : RLit G) (hC : CdI σ) (hP : LinP σ) (hj : j < cn σ 16) (hq : ∀ κ', KX κ κ' → Q (some (.int (bI (shw σ j day rank q)))) (cm τ κ' Md)) : CT G (d + 7) (0, 0) MX11_mayBeShown [.ref (τ 0), .ref (ω 2 j), .int day, .int rank, .int (spRule σ day q (cn σ 25))] (cm τ κ Md) Q := by
  have hW0 := hW
  obtain ⟨hi, hc, hD, hK⟩ := hW
  refine CT.of rfl (Nat.le_of_ble_eq_true rfl) ?_
  refine x_aload_n dX11_mayBeShown_0 rfl rfl ?_
  refine x_aload_n dX11_mayBeShown_1 rfl rfl ?_
  refine x_getf dX11_mayBeShown_2 lf_X11_243 (ob_2 hD hj) ov_2_0 ?_
  refine x_cV1 dX11_mayBeShown_5 lv_X11_208 (kc hi kf_0) rfl rfl rfl  (c_X11_setPersonLetters hW0 (hD.wr hj) ?_)
  intro κ1 hk1 hr1
  refine x_aload_n dX11_mayBeShown_8 rfl rfl ?_
  refine x_getf dX11_mayBeShown_9 lf_X11_71 (kc hi kf_0) kv_0_13 ?_
  refine x_iconst (v := 3) dX11_mayBeShown_12 (by decide) ?_
  refine x_iload_n dX11_mayBeShown_13 rfl rfl ?_
  refine xk_iast 13 dX11_mayBeShown_14 kf_13 rfl hi (vp_in_nI (n := 3) (N := 8) (by decide) (by decide)) rfl ?_
  refine x_aload_n dX11_mayBeShown_15 rfl rfl ?_
  refine x_getf dX11_mayBeShown_16 lf_X11_71 (kc hi kf_0) kv_0_13 ?_
  refine x_iconst (v := 4) dX11_mayBeShown_19 (by decide) ?_
  refine x_aload_n dX11_mayBeShown_20 rfl rfl ?_
  refine x_getf dX11_mayBeShown_21 lf_X11_247 (ob_2 hD hj) ov_2_2 ?_
  refine xk_iast 13 dX11_mayBeShown_24 kf_13 rfl hi (vp_in_nI (n := 4) (N := 8) (by decide) (by decide)) rfl ?_
  refine x_aload_n dX11_mayBeShown_25 rfl rfl ?_
  refine x_getf dX11_mayBeShown_26 lf_X11_71 (kc hi kf_0) kv_0_13 ?_
  refine x_iconst (v := 5) dX11_mayBeShown_29 (by decide) ?_
  refine x_aload_n dX11_mayBeShown_30 rfl rfl ?_
  refine x_getf dX11_mayBeShown_31 lf_X11_250 (ob_2 hD hj) ov_2_3 ?_
  refine xk_iast 13 dX11_mayBeShown_34 kf_13 rfl hi (vp_in_nI (n := 5) (N := 8) (by decide) (by decide)) rfl ?_
  refine x_aload_n dX11_mayBeShown_35 rfl rfl ?_
  refine x_getf dX11_mayBeShown_36 lf_X11_71 (kc hi kf_0) kv_0_13 ?_
  refine x_bipush (v := 6) dX11_mayBeShown_39 (by decide) ?_
  refine x_iload_n dX11_mayBeShown_41 rfl rfl ?_
  refine x_aload_n dX11_mayBeShown_42 rfl rfl ?_
  refine x_getf dX11_mayBeShown_43 lf_X11_238 (ob_2 hD hj) ov_2_1 ?_
  refine x_isub dX11_mayBeShown_46 ?_
  refine xk_iast 13 dX11_mayBeShown_47 kf_13 rfl hi (vp_in_nI (n := 6) (N := 8) (by decide) (by decide)) rfl ?_
  refine x_aload_n dX11_mayBeShown_48 rfl rfl ?_
  refine x_getf dX11_mayBeShown_49 lf_X11_71 (kc hi kf_0) kv_0_13 ?_
  refine x_bipush (v := 7) dX11_mayBeShown_52 (by decide) ?_
  refine x_iload_n dX11_mayBeShown_54 rfl rfl ?_
  refine xk_iast 13 dX11_mayBeShown_55 kf_13 rfl hi (vp_in_nI (n := 7) (N := 8) (by decide) (by decide)) rfl ?_
  refine x_aload_n dX11_mayBeShown_56 rfl rfl ?_
  refine x_bipush (v := 115) dX11_mayBeShown_57 (by decide) ?_
  refine x_iload dX11_mayBeShown_59 rfl ?_
  refine x_cV2 dX11_mayBeShown_61 lv_X11_212 (kc hi kf_0) rfl rfl rfl  (c_X11_worthOf (Wld_KX (((((hk1.a).a).a).a).a) hW0) hl hC (LtK_of (((((hr1.st (i := 3) (v := day) (by decide)).st (i := 4) (v := σ.2 10 j) (by decide)).st (i := 5) (v := σ.2 11 j) (by decide)).st (i := 6) (v := day - σ.2 9 j) (by decide)).st (i := 7) (v := rank) (by decide))) (fun κ2 hk2 => ?_))
  refine x_if_eq (tgt := 71) dX11_mayBeShown_64 (by decide) (fun h64 => ?_) (fun h64 => ?_)
  · refine x_iconst (v := 0) dX11_mayBeShown_71 (by decide) ?_
    exact x_ireturn dX11_mayBeShown_72 rfl rfl ((by
have h := hq κ2 ((((((hk1.a).a).a).a).a).tr hk2)
have e : linL σ j day rank = lt8 (σ.2 3 (pw σ j)) (σ.2 2 (pw σ j)) (σ.2 4 (pw σ j)) day (σ.2 10 j) (σ.2 11 j) (day - σ.2 9 j) rank := by
  unfold linL perL pw
  rfl
unfold shw at h
rw [e] at h
first
| exact fin h (bI_t h64)
| exact fin h (bI_f (fun z => z h64))))
  · refine x_iconst (v := 1) dX11_mayBeShown_67 (by decide) ?_
    refine x_goto (tgt := 72) dX11_mayBeShown_68 (by decide) ?_
    exact x_ireturn dX11_mayBeShown_72 rfl rfl ((by
have h := hq κ2 ((((((hk1.a).a).a).a).a).tr hk2)
have e : linL σ j day rank = lt8 (σ.2 3 (pw σ j)) (σ.2 2 (pw σ j)) (σ.2 4 (pw σ j)) day (σ.2 10 j) (σ.2 11 j) (day - σ.2 9 j) rank := by
  unfold linL perL pw
  rfl
unfold shw at h
rw [e] at h
first
| exact fin h (bI_t h64)
| exact fin h (bI_f (fun z => z h64))))
theorem c_X11_shown {l day rank q : Int32} (hW : Wld G τ ω ε σ κ Md) (hl : RLit G) (hC : CdI σ) (hR : RulD σ) (hP : LinP σ) (hB : LnB σ) (hq : ∀ κ', KX κ κ' → Q (some (.int (aShown σ l day rank q))) (cm τ κ' Md)) : CT G (d + 8) (0, 0) MX11_shown [.ref (τ 0), .int l, .int day, .int rank, .int q] (cm τ κ Md) Q := by
  have hW0 := hW
  obtain ⟨hi, hc, hD, hK⟩ := hW
  obtain ⟨e1, e2⟩ := hc.b 16 (b := 200) (by decide)
  have hno : ¬ (isLB σ l q ∧ (σ.2 9 l.toNatClampNeg ≤ day ∧ day ≤ 1000) ∧ isS rank) → Q (some (.int (-1))) (cm τ κ Md) := fun zz => by
    have h := hq κ KX.rf
    rw [show aShown σ l day rank q = -1 from cI_f zz] at h
    exact h
  have hpos : isLB σ l q → 0 ≤ σ.2 9 l.toNatClampNeg := fun z => by
    obtain ⟨j, hj, rfl⟩ := of_lt z.1.1 z.1.2 e1 (by omega)
    rw [nI_clamp (by omega)]
    exact (hB j hj).1.1
  refine CT.of rfl (Nat.le_of_ble_eq_true rfl) ?_
  refine x_aload_n dX11_shown_0 rfl rfl ?_
  refine x_iload_n dX11_shown_1 rfl rfl ?_
  refine x_iload dX11_shown_2 rfl ?_
  refine x_cV2 dX11_shown_4 lv_X11_231 (kc hi kf_0) rfl rfl rfl  (c_X11_isLineKnown hW0 ?_)
  refine x_if_eq_b (tgt := 42) dX11_shown_7 (by decide) (fun h7 => ?_) (fun h7 => ?_)
  · refine x_iconst (v := -1) dX11_shown_42 (by decide) ?_
    exact x_ireturn dX11_shown_43 rfl rfl (hno (fun z => by first | exact h7 z.1 | exact h14 ⟨Int32.le_trans (hpos z.1) z.2.1.1, z.2.1.2⟩ | exact h21 z.2.2 | (have z2 := z.2.1.1; rw [hcl] at z2; exact h39 z2)))
  · refine x_iload_n dX11_shown_10 rfl rfl ?_
    refine x_cS1 dX11_shown_11 ls_X11_150 rfl  (c_X11_isDay ?_)
    refine x_if_eq_b (tgt := 42) dX11_shown_14 (by decide) (fun h14 => ?_) (fun h14 => ?_)
    · refine x_iconst (v := -1) dX11_shown_42 (by decide) ?_
      exact x_ireturn dX11_shown_43 rfl rfl (hno (fun z => by first | exact h7 z.1 | exact h14 ⟨Int32.le_trans (hpos z.1) z.2.1.1, z.2.1.2⟩ | exact h21 z.2.2 | (have z2 := z.2.1.1; rw [hcl] at z2; exact h39 z2)))
    · refine x_iload_n dX11_shown_17 rfl rfl ?_
      refine x_cS1 dX11_shown_18 ls_X11_235 rfl  (c_X11_isRank ?_)
      refine x_if_eq_b (tgt := 42) dX11_shown_21 (by decide) (fun h21 => ?_) (fun h21 => ?_)
      · refine x_iconst (v := -1) dX11_shown_42 (by decide) ?_
        exact x_ireturn dX11_shown_43 rfl rfl (hno (fun z => by first | exact h7 z.1 | exact h14 ⟨Int32.le_trans (hpos z.1) z.2.1.1, z.2.1.2⟩ | exact h21 z.2.2 | (have z2 := z.2.1.1; rw [hcl] at z2; exact h39 z2)))
      · obtain ⟨j, hj, rfl⟩ := of_lt h7.1.1 h7.1.2 e1 (by omega)
        have hcl : (nI j).toNatClampNeg = j := nI_clamp (by omega)
        refine x_iload_n dX11_shown_24 rfl rfl ?_
        refine x_aload_n dX11_shown_25 rfl rfl ?_
        refine x_getf dX11_shown_26 lf_X11_16 (kc hi kf_0) kv_0_2 ?_
        refine x_iload_n dX11_shown_29 rfl rfl ?_
        refine x_cV1 dX11_shown_30 lv_X11_126 (hD.lc 2 li_2) rfl rfl rfl (c_lget (k := 2) hD li_2 hj ?_)
        refine x_cast (q := (_, _, _)) dX11_shown_33 (show vwCl[2]? = some _ from rfl) tb367 (ob_2 hD hj) ?_
        refine x_getf dX11_shown_36 lf_X11_238 (ob_2 hD hj) ov_2_1 ?_
        refine x_icmp_ge (tgt := 44) dX11_shown_39 (by decide) (fun h39 => ?_) (fun h39 => ?_)
        · refine x_aload_n dX11_shown_44 rfl rfl ?_
          refine x_aload_n dX11_shown_45 rfl rfl ?_
          refine x_getf dX11_shown_46 lf_X11_16 (kc hi kf_0) kv_0_2 ?_
          refine x_iload_n dX11_shown_49 rfl rfl ?_
          refine x_cV1 dX11_shown_50 lv_X11_126 (hD.lc 2 li_2) rfl rfl rfl (c_lget (k := 2) hD li_2 hj ?_)
          refine x_cast (q := (_, _, _)) dX11_shown_53 (show vwCl[2]? = some _ from rfl) tb367 (ob_2 hD hj) ?_
          refine x_iload_n dX11_shown_56 rfl rfl ?_
          refine x_iload_n dX11_shown_57 rfl rfl ?_
          refine x_aload_n dX11_shown_58 rfl rfl ?_
          refine x_iload_n dX11_shown_59 rfl rfl ?_
          refine x_iload dX11_shown_60 rfl ?_
          refine x_cV2 dX11_shown_62 lv_X11_197 (kc hi kf_0) rfl rfl rfl  (c_X11_ruleInForce hW0 hR ?_)
          refine x_cV4 dX11_shown_65 lv_X11_239 (kc hi kf_0) rfl rfl rfl  (c_X11_mayBeShown hW0 hl hC hP hj (fun κ1 hk1 => ?_))
          refine x_if_eq_b (tgt := 75) dX11_shown_68 (by decide) (fun h68 => ?_) (fun h68 => ?_)
          · refine x_iconst (v := 0) dX11_shown_75 (by decide) ?_
            exact x_ireturn dX11_shown_76 rfl rfl ((by
have hok : isLB σ (nI j) q ∧ (σ.2 9 (nI j).toNatClampNeg ≤ day ∧ day ≤ 1000) ∧ isS rank := ⟨h7, ⟨by rw [hcl]; exact h39, h14.2⟩, h21⟩
have h := hq κ1 hk1
rw [show aShown σ (nI j) day rank q = bI (shw σ (nI j).toNatClampNeg day rank q) from cI_t hok, hcl] at h
first
| exact fin h (bI_t h68)
| exact fin h (bI_f h68)))
          · refine x_iconst (v := 1) dX11_shown_71 (by decide) ?_
            refine x_goto (tgt := 76) dX11_shown_72 (by decide) ?_
            exact x_ireturn dX11_shown_76 rfl rfl ((by
have hok : isLB σ (nI j) q ∧ (σ.2 9 (nI j).toNatClampNeg ≤ day ∧ day ≤ 1000) ∧ isS rank := ⟨h7, ⟨by rw [hcl]; exact h39, h14.2⟩, h21⟩
have h := hq κ1 hk1
rw [show aShown σ (nI j) day rank q = bI (shw σ (nI j).toNatClampNeg day rank q) from cI_t hok, hcl] at h
first
| exact fin h (bI_t h68)
| exact fin h (bI_f h68)))
        · refine x_iconst (v := -1) dX11_shown_42 (by decide) ?_
          exact x_ireturn dX11_shown_43 rfl rfl (hno (fun z => by first | exact h7 z.1 | exact h14 ⟨Int32.le_trans (hpos z.1) z.2.1.1, z.2.1.2⟩ | exact h21 z.2.2 | (have z2 := z.2.1.1; rw [hcl] at z2; exact h39 z2)))
end SHW
