/-! the class, 18: days, land; stops, happenings, marks, questions, lines -/
theorem full_iff {σ : MS} {c N : Nat} (e1 : σ.1 c = nI (cn σ c)) (e2 : cn σ c ≤ N) (h : N < 2 ^ 31) : σ.1 c ≠ nI N ↔ nI (cn σ c) < nI N := by
  rw [e1]
  constructor
  · intro z
    exact nI_lt (by have : ¬ cn σ c = N := fun y => z (by rw [y]); omega) h
  · intro z y
    rw [y] at z
    exact absurd z (by rw [Int32.lt_iff_toInt_lt]; omega)
section ADR
variable {G : Gam} {d : Nat} {τ : Nat → Nat} {ω : Nat → Nat → Nat} {ε : Nat → Nat} {σ κ : MS} {Md : Mem} {M : Mem} {Q : Option Value → Mem → Prop} {k : Nat}
theorem c_X11_land {a b c : Int32} (hW : Wld G τ ω ε σ κ Md) (hq : ∀ κ', Kap (nLand σ a b c) κ' → (∀ r, (r < 30 ∨ 37 < r) → κ'.2 r = κ.2 r) → κ'.1 = κ.1 → Q (some (.int (aLand a b c))) (cm τ κ' Md)) : CT G (d + 2) (0, 0) MX11_land [.ref (τ 0), .int a, .int b, .int c] (cm τ κ Md) Q := by
  obtain ⟨hi, hc, hD, hK⟩ := hW
  have hno : ¬ pLand a b c → Q (some (.int 0)) (cm τ κ Md) := fun z => by
    have h := hq κ
    rw [show nLand σ a b c = σ from cI_f z, show aLand a b c = 0 from bI_f z] at h
    exact h hK (fun _ _ => rfl) rfl
  refine CT.of rfl (Nat.le_of_ble_eq_true rfl) ?_
  refine x_iload_n dX11_land_0 rfl rfl ?_
  refine x_cS1 dX11_land_1 ls_X11_96 rfl  (c_X11_isPlace ?_)
  refine x_if_eq_b (tgt := 27) dX11_land_4 (by decide) (fun h4 => ?_) (fun h4 => ?_)
  · refine x_iconst (v := 0) dX11_land_27 (by decide) ?_
    exact x_ireturn dX11_land_28 rfl rfl (hno (fun z => by first | exact h4 z.1 | exact h13 z.2.1 | exact h24 z.2.2))
  · refine x_iload_n dX11_land_7 rfl rfl ?_
    refine x_iconst (v := 0) dX11_land_8 (by decide) ?_
    refine x_iconst (v := 3) dX11_land_9 (by decide) ?_
    refine x_cS3 dX11_land_10 ls_X11_92 rfl  (c_X11_isWithin ?_)
    refine x_if_eq_b (tgt := 27) dX11_land_13 (by decide) (fun h13 => ?_) (fun h13 => ?_)
    · refine x_iconst (v := 0) dX11_land_27 (by decide) ?_
      exact x_ireturn dX11_land_28 rfl rfl (hno (fun z => by first | exact h4 z.1 | exact h13 z.2.1 | exact h24 z.2.2))
    · refine x_iload_n dX11_land_16 rfl rfl ?_
      refine x_iconst (v := 0) dX11_land_17 (by decide) ?_
      refine x_sipush (v := 9999) dX11_land_18 (by decide) ?_
      refine x_cS3 dX11_land_21 ls_X11_92 rfl  (c_X11_isWithin ?_)
      refine x_if_ne_b (tgt := 29) dX11_land_24 (by decide) (fun h24 => ?_) (fun h24 => ?_)
      · obtain ⟨p, hp, rfl⟩ := nI_of2 (M := 7) (n := 7) rfl (Int32.not_lt.mpr h4.1) h4.2
        obtain ⟨s, hs, rfl⟩ := nI_of2 (M := 3) (n := 3) rfl (Int32.not_lt.mpr h13.1) h13.2
        have hcp : (nI p).toNatClampNeg = p := nI_clamp (by omega)
        have hcs : (nI s).toNatClampNeg = s := nI_clamp (by omega)
        have kf_p : mFind kArr (30 + p) = some (100, 4) := by
          have : ∀ p, p < 8 → mFind kArr (30 + p) = some (100, 4) := by decide
          exact this p (by omega)
        have kr_p : kRow (30 + p) = true := by
          have : ∀ p, p < 8 → kRow (30 + p) = true := by decide
          exact this p (by omega)
        refine x_aload_n dX11_land_29 rfl rfl ?_
        refine x_getf dX11_land_30 lf_X11_57 (kc hi kf_0) kv_0_11 ?_
        refine x_iload_n dX11_land_33 rfl rfl ?_
        refine x_aaload dX11_land_34 (Or.inl rfl) (kc hi kf_11) (vp_in_nI (by omega) (by decide)) (show kV _ _ 11 _ = .ref (τ (30 + p)) by rw [hcp]; rfl) ?_
        refine x_iload_n dX11_land_35 rfl rfl ?_
        refine x_iload_n dX11_land_36 rfl rfl ?_
        refine xk_iast (30 + p) dX11_land_37 kf_p kr_p hi (vp_in_nI (by omega) (by decide)) hcs ?_
        refine x_iconst (v := 1) dX11_land_38 (by decide) ?_
        exact x_ireturn dX11_land_39 rfl rfl ((by
have hpl : pLand (nI p) (nI s) c := ⟨h4, h13, h24⟩
have h := hq (seta κ (30 + p) s c)
rw [show nLand σ (nI p) (nI s) c = seta σ 50 (4 * nI p + nI s).toNatClampNeg c from cI_t hpl, show aLand (nI p) (nI s) c = 1 from bI_t hpl] at h
have e4 : (4 * nI p + nI s).toNatClampNeg = 4 * p + s := by
  rw [show (4 : Int32) = nI 4 from rfl, nI_mul, nI_add, nI_clamp (by omega)]
rw [e4] at h
obtain ⟨k1, k2, k3, ⟨t1, t2, t3, t4⟩, k5⟩ := hK
refine h ⟨k1, k2, ?_, ⟨t1, t2, ?_, ?_⟩, ?_⟩ (fun r hr => seta_ne (by omega)) rfl
· intro i hi2
  rw [seta_ne (show (17 : Nat) ≠ 30 + p by omega)]; exact k3 i hi2
· intro i hi2
  rw [seta_ne (show (20 : Nat) ≠ 30 + p by omega), seta_ne (show (21 : Nat) ≠ 30 + p by omega)]; exact t3 i hi2
· intro i hi2
  rw [seta_ne (show (22 : Nat) ≠ 30 + p by omega), seta_ne (show (23 : Nat) ≠ 30 + p by omega)]; exact t4 i hi2
· intro p' s' hp' hs'
  rw [seta_eq]
  by_cases e : p' = p
  · subst e
    rw [seta_eq]
    by_cases e2 : s' = s
    · subst e2; rw [updB_eq, updB_eq]
    · rw [updB_ne e2, updB_ne (by omega)]; exact k5 p' s' hp' hs'
  · rw [seta_ne (by omega), updB_ne (by omega)]; exact k5 p' s' hp' hs'))
      · refine x_iconst (v := 0) dX11_land_27 (by decide) ?_
        exact x_ireturn dX11_land_28 rfl rfl (hno (fun z => by first | exact h4 z.1 | exact h13 z.2.1 | exact h24 z.2.2))
theorem c_X11_days {n : Int32} (hW : Wld G τ ω ε σ κ Md) (hq : ∀ κ', κ'.1 0 = (nDays σ n).1 1 → (∀ k, ¬ k = 0 → κ'.1 k = κ.1 k) → κ'.2 = κ.2 → Q (some (.int (aDays σ n))) (cm τ κ' Md)) : CT G (d + 2) (0, 0) MX11_days [.ref (τ 0), .int n] (cm τ κ Md) Q := by
  obtain ⟨hi, hc, hD, hK⟩ := hW
  have hno : ¬ pDays σ n → Q (some (.int (-1))) (cm τ κ Md) := fun z => by
    have h := hq κ
    rw [show nDays σ n = σ from cI_f z, show aDays σ n = -1 from cI_f z] at h
    exact h hK.1 (fun _ _ => rfl) rfl
  refine CT.of rfl (Nat.le_of_ble_eq_true rfl) ?_
  refine x_iload_n dX11_days_0 rfl rfl ?_
  refine x_iconst (v := 0) dX11_days_1 (by decide) ?_
  refine x_sipush (v := 400) dX11_days_2 (by decide) ?_
  refine x_cS3 dX11_days_5 ls_X11_92 rfl  (c_X11_isWithin ?_)
  refine x_if_eq_b (tgt := 23) dX11_days_8 (by decide) (fun h8 => ?_) (fun h8 => ?_)
  · refine x_iconst (v := -1) dX11_days_23 (by decide) ?_
    exact x_ireturn dX11_days_24 rfl rfl (hno (fun z => by first | exact h8 z.1 | exact h20 z.2))
  · refine x_aload_n dX11_days_11 rfl rfl ?_
    refine x_getf dX11_days_12 lf_X11_88 (kc hi kf_0) kv_0_0 ?_
    rw [hK.1]
    refine x_iload_n dX11_days_15 rfl rfl ?_
    refine x_iadd dX11_days_16 ?_
    refine x_sipush (v := 1000) dX11_days_17 (by decide) ?_
    refine x_icmp_le (tgt := 25) dX11_days_20 (by decide) (fun h20 => ?_) (fun h20 => ?_)
    · refine x_aload_n dX11_days_25 rfl rfl ?_
      refine x_dup dX11_days_26 rfl ?_
      refine x_getf dX11_days_27 lf_X11_88 (kc hi kf_0) kv_0_0 ?_
      rw [hK.1]
      refine x_iload_n dX11_days_30 rfl rfl ?_
      refine x_iadd dX11_days_31 ?_
      refine xk_puti dX11_days_32 lp_X11_88 (kc hi kf_0) rfl rfl (kp_0_0 hi) ?_
      refine x_aload_n dX11_days_35 rfl rfl ?_
      refine x_getf dX11_days_36 lf_X11_88 (kc hi kf_0) kv_0_0 ?_
      exact x_ireturn dX11_days_39 rfl rfl ((by
have hp : pDays σ n := ⟨h8, h20⟩
have h := hq (seti κ 0 (σ.1 1 + n))
rw [show nDays σ n = seti σ 1 (σ.1 1 + n) from cI_t hp, show aDays σ n = σ.1 1 + n from cI_t hp] at h
exact h rfl (fun k hk => seti_ne hk) rfl))
    · refine x_iconst (v := -1) dX11_days_23 (by decide) ?_
      exact x_ireturn dX11_days_24 rfl rfl (hno (fun z => by first | exact h8 z.1 | exact h20 z.2))
def stN (σ : MS) (a b : Int32) : MS := seti (seta (seta (seta σ 5 (cn σ 17) a) 6 (cn σ 17) b) 7 (cn σ 17) (σ.1 1)) 17 (σ.1 17 + 1)
theorem c_X11_stop {a b : Int32} {mi : Nat} (hW : Wld G τ ω ε σ κ Md) (hZ : ZMir G mi) (hq : ∀ Md' ω' ε', Dyn G τ ω' ε' (nStop σ a b) Md' → Q (some (.int (aStop σ a b))) (cm τ κ Md')) : CT G (d + 7) (2, 410) MX11_stop [.ref (τ 0), .int a, .int b] (cm τ κ Md) Q := by
  have hW0 := hW
  obtain ⟨hi, hc, hD, hK⟩ := hW
  obtain ⟨e1, e2⟩ := hc.b 17 (b := 60) (by decide)
  have hno : ¬ pStop σ a b → Q (some (.int 0)) (cm τ κ Md) := fun zz => by
    have h := hq Md ω ε
    rw [show nStop σ a b = σ from cI_f zz, show aStop σ a b = 0 from bI_f zz] at h
    exact h hD
  have hlt : σ.1 17 ≠ 60 ↔ nI (cn σ 17) < 60 := full_iff (N := 60) e1 e2 (by decide)
  have hn1 : cn (stN σ a b) 17 = cn σ 17 + 1 := by
    show (σ.1 17 + 1).toNatClampNeg = _
    rw [e1, nI_1, nI_clamp (by omega)]
  refine CT.of rfl (Nat.le_of_ble_eq_true rfl) ?_
  refine x_aload_n dX11_stop_0 rfl rfl ?_
  refine x_iload_n dX11_stop_1 rfl rfl ?_
  refine x_cV1 dX11_stop_2 lv_X11_112 (kc hi kf_0) rfl rfl rfl  (c_X11_isPerson hW0 ?_)
  refine x_if_eq_b (tgt := 27) dX11_stop_5 (by decide) (fun h5 => ?_) (fun h5 => ?_)
  · refine x_iconst (v := 0) dX11_stop_27 (by decide) ?_
    exact x_ireturn dX11_stop_28 rfl rfl (hno (fun z => by first | exact h5 z.2.1 | exact h12 z.2.2 | exact h24 (hlt.mp z.1)))
  · refine x_iload_n dX11_stop_8 rfl rfl ?_
    refine x_cS1 dX11_stop_9 ls_X11_150 rfl  (c_X11_isDay ?_)
    refine x_if_eq_b (tgt := 27) dX11_stop_12 (by decide) (fun h12 => ?_) (fun h12 => ?_)
    · refine x_iconst (v := 0) dX11_stop_27 (by decide) ?_
      exact x_ireturn dX11_stop_28 rfl rfl (hno (fun z => by first | exact h5 z.2.1 | exact h12 z.2.2 | exact h24 (hlt.mp z.1)))
    · refine x_aload_n dX11_stop_15 rfl rfl ?_
      refine x_getf dX11_stop_16 lf_X11_19 (kc hi kf_0) kv_0_3 ?_
      refine x_cV0 dX11_stop_19 lv_X11_100 (hD.lc 3 li_3) rfl rfl rfl (c_lsz_3 hD ?_)
      refine x_bipush (v := 60) dX11_stop_22 (by decide) ?_
      refine x_icmp_lt (tgt := 29) dX11_stop_24 (by decide) (fun h24 => ?_) (fun h24 => ?_)
      · refine x_aload_n dX11_stop_29 rfl rfl ?_
        refine x_getf dX11_stop_30 lf_X11_19 (kc hi kf_0) kv_0_3 ?_
        refine x_new (q := (_, _, _)) dX11_stop_33 (show vwCl[8]? = some _ from rfl) tb366 (by decide) (fun a33 hn33 => ?_)
        refine x_dup dX11_stop_36 rfl ?_
        refine x_iload_n dX11_stop_37 rfl rfl ?_
        refine x_iload_n dX11_stop_38 rfl rfl ?_
        refine x_aload_n dX11_stop_39 rfl rfl ?_
        refine x_getf dX11_stop_40 lf_X11_88 (by rw [mset_ne (fr_ne hn33 (kc hi kf_0))]; exact kc hi kf_0) kv_0_0 ?_
        rw [hK.1]
        refine x_cI3 dX11_stop_43 li_X11_155 rfl rfl  (c_X7_init mset_eq ?_)
        intro f' g0 g1 g2
        rw [mset_mset]
        refine x_rV1 dX11_stop_46 lv_X11_108 (by rw [mset_ne (fr_ne hn33 (hD.lc 3 li_3))]; exact hD.lc 3 li_3) rfl rfl rfl ⟨by decide, by decide⟩ (c_lst_add (k := 3) (stN σ a b) hi hD li_3 (by decide) hZ hn33 rfl tb1762 (by show cn σ 17 ≤ 266; omega) hn1 (s2_of (k := 3) rfl li_3) (fun _ => s3_L (k := 3) li_3 [(5, a), (6, b), (7, (σ.1 1))] rfl) (fun r _ => rfl) (fun j hj => ?_) (LinP_k rfl rfl rfl hD.2.2.2.2.2) ?_)
        · match j, hj with
          | 0, _ => rw [g0]; exact congrArg Value.int (updB_eq (f := σ.2 5)).symm
          | 1, _ => rw [g1]; exact congrArg Value.int (updB_eq (f := σ.2 6)).symm
          | 2, _ => rw [g2]; exact congrArg Value.int (updB_eq (f := σ.2 7)).symm
        intro Md' ω' ε' hD
        refine x_pop dX11_stop_49 rfl ?_
        refine x_iconst (v := 1) dX11_stop_50 (by decide) ?_
        exact x_ireturn dX11_stop_51 rfl rfl ((by
have hp : pStop σ a b := ⟨hlt.mpr h24, h5, h12⟩
have h := hq Md' ω' ε'
rw [show nStop σ a b = stN σ a b from cI_t hp, show aStop σ a b = 1 from bI_t hp] at h
exact h hD))
      · refine x_iconst (v := 0) dX11_stop_27 (by decide) ?_
        exact x_ireturn dX11_stop_28 rfl rfl (hno (fun z => by first | exact h5 z.2.1 | exact h12 z.2.2 | exact h24 (hlt.mp z.1)))
def haN (σ : MS) (a b c z : Int32) : MS := seti (seta (seta (seta (seta (seta σ 38 (cn σ 44) a) 39 (cn σ 44) b) 40 (cn σ 44) c) 42 (cn σ 44) (z &&& 1)) 41 (cn σ 44) (σ.1 1)) 44 (σ.1 44 + 1)
theorem c_X11_happen {a b c z : Int32} {mi : Nat} (hz : z = 0 ∨ z = 1) (hW : Wld G τ ω ε σ κ Md) (hZ : ZMir G mi) (hq : ∀ Md' ω' ε', Dyn G τ ω' ε' (nHappen σ a b c z) Md' → Q (some (.int (aHappen σ a b c))) (cm τ κ Md')) : CT G (d + 7) (2, 410) MX11_happen [.ref (τ 0), .int a, .int b, .int c, .int z] (cm τ κ Md) Q := by
  have hW0 := hW
  obtain ⟨hi, hc, hD, hK⟩ := hW
  obtain ⟨e1, e2⟩ := hc.b 44 (b := 100) (by decide)
  have hno : ¬ pHappen σ a b c → Q (some (.int 0)) (cm τ κ Md) := fun zz => by
    have h := hq Md ω ε
    rw [show nHappen σ a b c z = σ from cI_f zz, show aHappen σ a b c = 0 from bI_f zz] at h
    exact h hD
  have hlt : σ.1 44 ≠ 100 ↔ nI (cn σ 44) < 100 := full_iff (N := 100) e1 e2 (by decide)
  have hn1 : cn (haN σ a b c z) 44 = cn σ 44 + 1 := by
    show (σ.1 44 + 1).toNatClampNeg = _
    rw [e1, nI_1, nI_clamp (by omega)]
  refine CT.of rfl (Nat.le_of_ble_eq_true rfl) ?_
  refine x_iload_n dX11_happen_0 rfl rfl ?_
  refine x_cS1 dX11_happen_1 ls_X11_96 rfl  (c_X11_isPlace ?_)
  refine x_if_eq_b (tgt := 33) dX11_happen_4 (by decide) (fun h4 => ?_) (fun h4 => ?_)
  · refine x_iconst (v := 0) dX11_happen_33 (by decide) ?_
    exact x_ireturn dX11_happen_34 rfl rfl (hno (fun z => by first | exact h4 z.2.1 | exact h11 z.2.2.1 | exact h18 z.2.2.2 | exact h30 (hlt.mp z.1)))
  · refine x_iload_n dX11_happen_7 rfl rfl ?_
    refine x_cS1 dX11_happen_8 ls_X11_150 rfl  (c_X11_isDay ?_)
    refine x_if_eq_b (tgt := 33) dX11_happen_11 (by decide) (fun h11 => ?_) (fun h11 => ?_)
    · refine x_iconst (v := 0) dX11_happen_33 (by decide) ?_
      exact x_ireturn dX11_happen_34 rfl rfl (hno (fun z => by first | exact h4 z.2.1 | exact h11 z.2.2.1 | exact h18 z.2.2.2 | exact h30 (hlt.mp z.1)))
    · refine x_iload_n dX11_happen_14 rfl rfl ?_
      refine x_cS1 dX11_happen_15 ls_X11_115 rfl  (c_X11_isSort ?_)
      refine x_if_eq_b (tgt := 33) dX11_happen_18 (by decide) (fun h18 => ?_) (fun h18 => ?_)
      · refine x_iconst (v := 0) dX11_happen_33 (by decide) ?_
        exact x_ireturn dX11_happen_34 rfl rfl (hno (fun z => by first | exact h4 z.2.1 | exact h11 z.2.2.1 | exact h18 z.2.2.2 | exact h30 (hlt.mp z.1)))
      · refine x_aload_n dX11_happen_21 rfl rfl ?_
        refine x_getf dX11_happen_22 lf_X11_25 (kc hi kf_0) kv_0_5 ?_
        refine x_cV0 dX11_happen_25 lv_X11_100 (hD.lc 5 li_5) rfl rfl rfl (c_lsz_5 hD ?_)
        refine x_bipush (v := 100) dX11_happen_28 (by decide) ?_
        refine x_icmp_lt (tgt := 35) dX11_happen_30 (by decide) (fun h30 => ?_) (fun h30 => ?_)
        · refine x_aload_n dX11_happen_35 rfl rfl ?_
          refine x_getf dX11_happen_36 lf_X11_25 (kc hi kf_0) kv_0_5 ?_
          refine x_new (q := (_, _, _)) dX11_happen_39 (show vwCl[1]? = some _ from rfl) tb772 (by decide) (fun a39 hn39 => ?_)
          refine x_dup dX11_happen_42 rfl ?_
          refine x_iload_n dX11_happen_43 rfl rfl ?_
          refine x_iload_n dX11_happen_44 rfl rfl ?_
          refine x_iload_n dX11_happen_45 rfl rfl ?_
          refine x_iload dX11_happen_46 rfl ?_
          refine x_aload_n dX11_happen_48 rfl rfl ?_
          refine x_getf dX11_happen_49 lf_X11_88 (by rw [mset_ne (fr_ne hn39 (kc hi kf_0))]; exact kc hi kf_0) kv_0_0 ?_
          rw [hK.1]
          refine x_cI5 dX11_happen_52 li_X11_290 rfl rfl  (c_X0_init hz mset_eq ?_)
          intro f' g0 g1 g2 g3 g4
          rw [mset_mset]
          refine x_rV1 dX11_happen_55 lv_X11_108 (by rw [mset_ne (fr_ne hn39 (hD.lc 5 li_5))]; exact hD.lc 5 li_5) rfl rfl rfl ⟨by decide, by decide⟩ (c_lst_add (k := 5) (haN σ a b c z) hi hD li_5 (by decide) hZ hn39 rfl tb1764 (by show cn σ 44 ≤ 266; omega) hn1 (s2_of (k := 5) rfl li_5) (fun _ => s3_L (k := 5) li_5 [(38, a), (39, b), (40, c), (42, (z &&& 1)), (41, (σ.1 1))] rfl) (fun r _ => rfl) (fun j hj => ?_) (LinP_k rfl rfl rfl hD.2.2.2.2.2) ?_)
          · match j, hj with
            | 0, _ => rw [g0]; exact congrArg Value.int (updB_eq (f := σ.2 38)).symm
            | 1, _ => rw [g1]; exact congrArg Value.int (updB_eq (f := σ.2 39)).symm
            | 2, _ => rw [g2]; exact congrArg Value.int (updB_eq (f := σ.2 40)).symm
            | 3, _ => rw [g3]; exact (congrArg Value.int (show z = z &&& 1 by rcases hz with rfl | rfl <;> rfl)).trans (congrArg Value.int (updB_eq (f := σ.2 42)).symm)
            | 4, _ => rw [g4]; exact congrArg Value.int (updB_eq (f := σ.2 41)).symm
          intro Md' ω' ε' hD
          refine x_pop dX11_happen_58 rfl ?_
          refine x_iconst (v := 1) dX11_happen_59 (by decide) ?_
          exact x_ireturn dX11_happen_60 rfl rfl ((by
have hp : pHappen σ a b c := ⟨hlt.mpr h30, h4, h11, h18⟩
have h := hq Md' ω' ε'
rw [show nHappen σ a b c z = haN σ a b c z from cI_t hp, show aHappen σ a b c = 1 from bI_t hp] at h
exact h hD))
        · refine x_iconst (v := 0) dX11_happen_33 (by decide) ?_
          exact x_ireturn dX11_happen_34 rfl rfl (hno (fun z => by first | exact h4 z.2.1 | exact h11 z.2.2.1 | exact h18 z.2.2.2 | exact h30 (hlt.mp z.1)))
def mkN (σ : MS) (a b c : Int32) : MS := seti (seta (seta (seta (seta σ 45 (cn σ 49) a) 46 (cn σ 49) b) 47 (cn σ 49) c) 48 (cn σ 49) (σ.1 1)) 49 (σ.1 49 + 1)
theorem c_X11_mark {a b c : Int32} {mi : Nat} (hW : Wld G τ ω ε σ κ Md) (hZ : ZMir G mi) (hq : ∀ Md' ω' ε', Dyn G τ ω' ε' (nMark σ a b c) Md' → Q (some (.int (aMark σ a b c))) (cm τ κ Md')) : CT G (d + 7) (2, 410) MX11_mark [.ref (τ 0), .int a, .int b, .int c] (cm τ κ Md) Q := by
  have hW0 := hW
  obtain ⟨hi, hc, hD, hK⟩ := hW
  obtain ⟨e1, e2⟩ := hc.b 49 (b := 200) (by decide)
  have hno : ¬ pMark σ a b c → Q (some (.int 0)) (cm τ κ Md) := fun zz => by
    have h := hq Md ω ε
    rw [show nMark σ a b c = σ from cI_f zz, show aMark σ a b c = 0 from bI_f zz] at h
    exact h hD
  have hlt : σ.1 49 ≠ 200 ↔ nI (cn σ 49) < 200 := full_iff (N := 200) e1 e2 (by decide)
  have hn1 : cn (mkN σ a b c) 49 = cn σ 49 + 1 := by
    show (σ.1 49 + 1).toNatClampNeg = _
    rw [e1, nI_1, nI_clamp (by omega)]
  refine CT.of rfl (Nat.le_of_ble_eq_true rfl) ?_
  refine x_iload_n dX11_mark_0 rfl rfl ?_
  refine x_cS1 dX11_mark_1 ls_X11_316 rfl  (c_X11_isReader ?_)
  refine x_if_eq_b (tgt := 38) dX11_mark_4 (by decide) (fun h4 => ?_) (fun h4 => ?_)
  · refine x_iconst (v := 0) dX11_mark_38 (by decide) ?_
    exact x_ireturn dX11_mark_39 rfl rfl (hno (fun z => by first | exact h4 z.2.1 | exact h12 z.2.2.1 | exact h22 z.2.2.2 | exact h35 (hlt.mp z.1)))
  · refine x_aload_n dX11_mark_7 rfl rfl ?_
    refine x_iload_n dX11_mark_8 rfl rfl ?_
    refine x_cV1 dX11_mark_9 lv_X11_136 (kc hi kf_0) rfl rfl rfl  (c_X11_isLine hW0 ?_)
    refine x_if_eq_b (tgt := 38) dX11_mark_12 (by decide) (fun h12 => ?_) (fun h12 => ?_)
    · refine x_iconst (v := 0) dX11_mark_38 (by decide) ?_
      exact x_ireturn dX11_mark_39 rfl rfl (hno (fun z => by first | exact h4 z.2.1 | exact h12 z.2.2.1 | exact h22 z.2.2.2 | exact h35 (hlt.mp z.1)))
    · refine x_iload_n dX11_mark_15 rfl rfl ?_
      refine x_iconst (v := 0) dX11_mark_16 (by decide) ?_
      refine x_bipush (v := 9) dX11_mark_17 (by decide) ?_
      refine x_cS3 dX11_mark_19 ls_X11_92 rfl  (c_X11_isWithin ?_)
      refine x_if_eq_b (tgt := 38) dX11_mark_22 (by decide) (fun h22 => ?_) (fun h22 => ?_)
      · refine x_iconst (v := 0) dX11_mark_38 (by decide) ?_
        exact x_ireturn dX11_mark_39 rfl rfl (hno (fun z => by first | exact h4 z.2.1 | exact h12 z.2.2.1 | exact h22 z.2.2.2 | exact h35 (hlt.mp z.1)))
      · refine x_aload_n dX11_mark_25 rfl rfl ?_
        refine x_getf dX11_mark_26 lf_X11_28 (kc hi kf_0) kv_0_6 ?_
        refine x_cV0 dX11_mark_29 lv_X11_100 (hD.lc 6 li_6) rfl rfl rfl (c_lsz_6 hD ?_)
        refine x_sipush (v := 200) dX11_mark_32 (by decide) ?_
        refine x_icmp_lt (tgt := 40) dX11_mark_35 (by decide) (fun h35 => ?_) (fun h35 => ?_)
        · refine x_aload_n dX11_mark_40 rfl rfl ?_
          refine x_getf dX11_mark_41 lf_X11_28 (kc hi kf_0) kv_0_6 ?_
          refine x_new (q := (_, _, _)) dX11_mark_44 (show vwCl[3]? = some _ from rfl) tb826 (by decide) (fun a44 hn44 => ?_)
          refine x_dup dX11_mark_47 rfl ?_
          refine x_iload_n dX11_mark_48 rfl rfl ?_
          refine x_iload_n dX11_mark_49 rfl rfl ?_
          refine x_iload_n dX11_mark_50 rfl rfl ?_
          refine x_aload_n dX11_mark_51 rfl rfl ?_
          refine x_getf dX11_mark_52 lf_X11_88 (by rw [mset_ne (fr_ne hn44 (kc hi kf_0))]; exact kc hi kf_0) kv_0_0 ?_
          rw [hK.1]
          refine x_cI4 dX11_mark_55 li_X11_321 rfl rfl  (c_X2_init mset_eq ?_)
          intro f' g0 g1 g2 g3
          rw [mset_mset]
          refine x_rV1 dX11_mark_58 lv_X11_108 (by rw [mset_ne (fr_ne hn44 (hD.lc 6 li_6))]; exact hD.lc 6 li_6) rfl rfl rfl ⟨by decide, by decide⟩ (c_lst_add (k := 6) (mkN σ a b c) hi hD li_6 (by decide) hZ hn44 rfl tb1765 (by show cn σ 49 ≤ 266; omega) hn1 (s2_of (k := 6) rfl li_6) (fun _ => s3_L (k := 6) li_6 [(45, a), (46, b), (47, c), (48, (σ.1 1))] rfl) (fun r _ => rfl) (fun j hj => ?_) (LinP_k rfl rfl rfl hD.2.2.2.2.2) ?_)
          · match j, hj with
            | 0, _ => rw [g0]; exact congrArg Value.int (updB_eq (f := σ.2 45)).symm
            | 1, _ => rw [g1]; exact congrArg Value.int (updB_eq (f := σ.2 46)).symm
            | 2, _ => rw [g2]; exact congrArg Value.int (updB_eq (f := σ.2 47)).symm
            | 3, _ => rw [g3]; exact congrArg Value.int (updB_eq (f := σ.2 48)).symm
          intro Md' ω' ε' hD
          refine x_pop dX11_mark_61 rfl ?_
          refine x_iconst (v := 1) dX11_mark_62 (by decide) ?_
          exact x_ireturn dX11_mark_63 rfl rfl ((by
have hp : pMark σ a b c := ⟨hlt.mpr h35, h4, h12, h22⟩
have h := hq Md' ω' ε'
rw [show nMark σ a b c = mkN σ a b c from cI_t hp, show aMark σ a b c = 1 from bI_t hp] at h
exact h hD))
        · refine x_iconst (v := 0) dX11_mark_38 (by decide) ?_
          exact x_ireturn dX11_mark_39 rfl rfl (hno (fun z => by first | exact h4 z.2.1 | exact h12 z.2.2.1 | exact h22 z.2.2.2 | exact h35 (hlt.mp z.1)))
def quN (σ : MS) (a b : Int32) : MS := seti (seta (seta σ 62 (cn σ 65) a) 63 (cn σ 65) b) 65 (σ.1 65 + 1)
theorem c_X11_question {a b : Int32} {mi : Nat} (hW : Wld G τ ω ε σ κ Md) (hZ : ZMir G mi) (hq : ∀ Md' ω' ε', Dyn G τ ω' ε' (nQuest σ a b) Md' → Q (some (.int (aQuest σ a b))) (cm τ κ Md')) : CT G (d + 7) (2, 410) MX11_question [.ref (τ 0), .int a, .int b] (cm τ κ Md) Q := by
  have hW0 := hW
  obtain ⟨hi, hc, hD, hK⟩ := hW
  obtain ⟨e1, e2⟩ := hc.b 65 (b := 8) (by decide)
  have hno : ¬ pQuest σ a b → Q (some (.int (-1))) (cm τ κ Md) := fun zz => by
    have h := hq Md ω ε
    rw [show nQuest σ a b = σ from cI_f zz, show aQuest σ a b = -1 from cI_f zz] at h
    exact h hD
  have hlt : σ.1 65 ≠ 8 ↔ nI (cn σ 65) < 8 := full_iff (N := 8) e1 e2 (by decide)
  have hn1 : cn (quN σ a b) 65 = cn σ 65 + 1 := by
    show (σ.1 65 + 1).toNatClampNeg = _
    rw [e1, nI_1, nI_clamp (by omega)]
  refine CT.of rfl (Nat.le_of_ble_eq_true rfl) ?_
  refine x_iload_n dX11_question_0 rfl rfl ?_
  refine x_iconst (v := 1) dX11_question_1 (by decide) ?_
  refine x_bipush (v := 50) dX11_question_2 (by decide) ?_
  refine x_cS3 dX11_question_4 ls_X11_92 rfl  (c_X11_isWithin ?_)
  refine x_if_eq_b (tgt := 33) dX11_question_7 (by decide) (fun h7 => ?_) (fun h7 => ?_)
  · refine x_iconst (v := -1) dX11_question_33 (by decide) ?_
    exact x_ireturn dX11_question_34 rfl rfl (hno (fun z => by first | exact h7 z.2.1 | exact h18 z.2.2 | exact h30 (hlt.mp z.1)))
  · refine x_iload_n dX11_question_10 rfl rfl ?_
    refine x_iconst (v := 0) dX11_question_11 (by decide) ?_
    refine x_sipush (v := 1023) dX11_question_12 (by decide) ?_
    refine x_cS3 dX11_question_15 ls_X11_92 rfl  (c_X11_isWithin ?_)
    refine x_if_eq_b (tgt := 33) dX11_question_18 (by decide) (fun h18 => ?_) (fun h18 => ?_)
    · refine x_iconst (v := -1) dX11_question_33 (by decide) ?_
      exact x_ireturn dX11_question_34 rfl rfl (hno (fun z => by first | exact h7 z.2.1 | exact h18 z.2.2 | exact h30 (hlt.mp z.1)))
    · refine x_aload_n dX11_question_21 rfl rfl ?_
      refine x_getf dX11_question_22 lf_X11_31 (kc hi kf_0) kv_0_7 ?_
      refine x_cV0 dX11_question_25 lv_X11_100 (hD.lc 7 li_7) rfl rfl rfl (c_lsz_7 hD ?_)
      refine x_bipush (v := 8) dX11_question_28 (by decide) ?_
      refine x_icmp_lt (tgt := 35) dX11_question_30 (by decide) (fun h30 => ?_) (fun h30 => ?_)
      · refine x_aload_n dX11_question_35 rfl rfl ?_
        refine x_getf dX11_question_36 lf_X11_31 (kc hi kf_0) kv_0_7 ?_
        refine x_new (q := (_, _, _)) dX11_question_39 (show vwCl[6]? = some _ from rfl) tb1028 (by decide) (fun a39 hn39 => ?_)
        refine x_dup dX11_question_42 rfl ?_
        refine x_iload_n dX11_question_43 rfl rfl ?_
        refine x_iload_n dX11_question_44 rfl rfl ?_
        refine x_cI2 dX11_question_45 li_X11_404 rfl rfl  (c_X5_init mset_eq ?_)
        intro f' g0 g1
        rw [mset_mset]
        refine x_rV1 dX11_question_48 lv_X11_108 (by rw [mset_ne (fr_ne hn39 (hD.lc 7 li_7))]; exact hD.lc 7 li_7) rfl rfl rfl ⟨by decide, by decide⟩ (c_lst_add (k := 7) (quN σ a b) hi hD li_7 (by decide) hZ hn39 rfl tb1766 (by show cn σ 65 ≤ 266; omega) hn1 (s2_of (k := 7) rfl li_7) (fun _ => s3_L (k := 7) li_7 [(62, a), (63, b)] rfl) (fun r _ => rfl) (fun j hj => ?_) (LinP_k rfl rfl rfl hD.2.2.2.2.2) ?_)
        · match j, hj with
          | 0, _ => rw [g0]; exact congrArg Value.int (updB_eq (f := σ.2 62)).symm
          | 1, _ => rw [g1]; exact congrArg Value.int (updB_eq (f := σ.2 63)).symm
        intro Md' ω' ε' hD
        refine x_pop dX11_question_51 rfl ?_
        refine x_aload_n dX11_question_52 rfl rfl ?_
        refine x_getf dX11_question_53 lf_X11_31 (kc hi kf_0) kv_0_7 ?_
        refine x_cV0 dX11_question_56 lv_X11_100 (hD.lc 7 li_7) rfl rfl rfl (c_lsz_7 hD ?_)
        refine x_iconst (v := 1) dX11_question_59 (by decide) ?_
        refine x_isub dX11_question_60 ?_
        exact x_ireturn dX11_question_61 rfl rfl ((by
have hp : pQuest σ a b := ⟨hlt.mpr h30, h7, h18⟩
have h := hq Md' ω' ε'
rw [show nQuest σ a b = quN σ a b from cI_t hp, show aQuest σ a b = σ.1 65 from cI_t hp] at h
refine fin (h hD) ?_
show _ = nI (cn (quN σ a b) 65) - 1
rw [hn1, ← nI_1, add_sub1]; exact e1))
      · refine x_iconst (v := -1) dX11_question_33 (by decide) ?_
        exact x_ireturn dX11_question_34 rfl rfl (hno (fun z => by first | exact h7 z.2.1 | exact h18 z.2.2 | exact h30 (hlt.mp z.1)))
def liN (σ : MS) (a b c e g w : Int32) : MS := seti (seta (seta (seta (seta (seta (seta (seta σ 8 (cn σ 16) a) 9 (cn σ 16) b) 10 (cn σ 16) c) 11 (cn σ 16) e) 12 (cn σ 16) g) 13 (cn σ 16) w) 14 (cn σ 16) (σ.1 1)) 16 (σ.1 16 + 1)
theorem liN_L {a b c e g w : Int32} (h : LinP σ) (e1 : σ.1 16 = nI (cn σ 16)) (e2 : cn σ 16 ≤ 200) (hp : isP σ a) : LinP (liN σ a b c e g w) := fun l hl => by
  have hn1 : cn (liN σ a b c e g w) 16 = cn σ 16 + 1 := by
    show (σ.1 16 + 1).toNatClampNeg = _
    rw [e1, nI_1, nI_clamp (by omega)]
  rw [hn1] at hl
  show 0 ≤ updB (σ.2 8) (cn σ 16) a l ∧ updB (σ.2 8) (cn σ 16) a l < σ.1 15
  by_cases z : l = cn σ 16
  · rw [z, updB_eq]; exact hp
  · rw [updB_ne z]; exact h l (by omega)
theorem c_X11_line {a b c e g w : Int32} {mi : Nat} (hW : Wld G τ ω ε σ κ Md) (hZ : ZMir G mi) (hq : ∀ Md' ω' ε', Dyn G τ ω' ε' (nLine σ a b c e g w) Md' → Q (some (.int (aLine σ a b c e g w))) (cm τ κ Md')) : CT G (d + 7) (2, 410) MX11_line [.ref (τ 0), .int a, .int b, .int c, .int e, .int g, .int w] (cm τ κ Md) Q := by
  have hW0 := hW
  obtain ⟨hi, hc, hD, hK⟩ := hW
  obtain ⟨e1, e2⟩ := hc.b 16 (b := 200) (by decide)
  have hno : ¬ pLine σ a b c e g w → Q (some (.int (-1))) (cm τ κ Md) := fun zz => by
    have h := hq Md ω ε
    rw [show nLine σ a b c e g w = σ from cI_f zz, show aLine σ a b c e g w = -1 from cI_f zz] at h
    exact h hD
  have hlt : σ.1 16 ≠ 200 ↔ nI (cn σ 16) < 200 := full_iff (N := 200) e1 e2 (by decide)
  have hn1 : cn (liN σ a b c e g w) 16 = cn σ 16 + 1 := by
    show (σ.1 16 + 1).toNatClampNeg = _
    rw [e1, nI_1, nI_clamp (by omega)]
  refine CT.of rfl (Nat.le_of_ble_eq_true rfl) ?_
  refine x_aload_n dX11_line_0 rfl rfl ?_
  refine x_iload_n dX11_line_1 rfl rfl ?_
  refine x_cV1 dX11_line_2 lv_X11_112 (kc hi kf_0) rfl rfl rfl  (c_X11_isPerson hW0 ?_)
  refine x_if_eq_b (tgt := 77) dX11_line_5 (by decide) (fun h5 => ?_) (fun h5 => ?_)
  · refine x_iconst (v := -1) dX11_line_77 (by decide) ?_
    exact x_ireturn dX11_line_78 rfl rfl (hno (fun z => by first | exact h5 z.2.1 | exact h17 z.2.2.1 | exact h24 z.2.2.2.1 | exact h36 z.2.2.2.2.1 | exact h48 ⟨z.2.2.2.2.2.1, z.2.2.2.2.2.2.1⟩ | exact absurd (hlt.mp z.1) (Int32.not_lt.mpr h61) | exact z.2.2.2.2.2.2.2 h74))
  · refine x_iload_n dX11_line_8 rfl rfl ?_
    refine x_iconst (v := 0) dX11_line_9 (by decide) ?_
    refine x_aload_n dX11_line_10 rfl rfl ?_
    refine x_getf dX11_line_11 lf_X11_88 (kc hi kf_0) kv_0_0 ?_
    rw [hK.1]
    refine x_cS3 dX11_line_14 ls_X11_92 rfl  (c_X11_isWithin ?_)
    refine x_if_eq_b (tgt := 77) dX11_line_17 (by decide) (fun h17 => ?_) (fun h17 => ?_)
    · refine x_iconst (v := -1) dX11_line_77 (by decide) ?_
      exact x_ireturn dX11_line_78 rfl rfl (hno (fun z => by first | exact h5 z.2.1 | exact h17 z.2.2.1 | exact h24 z.2.2.2.1 | exact h36 z.2.2.2.2.1 | exact h48 ⟨z.2.2.2.2.2.1, z.2.2.2.2.2.2.1⟩ | exact absurd (hlt.mp z.1) (Int32.not_lt.mpr h61) | exact z.2.2.2.2.2.2.2 h74))
    · refine x_iload_n dX11_line_20 rfl rfl ?_
      refine x_cS1 dX11_line_21 ls_X11_115 rfl  (c_X11_isSort ?_)
      refine x_if_eq_b (tgt := 77) dX11_line_24 (by decide) (fun h24 => ?_) (fun h24 => ?_)
      · refine x_iconst (v := -1) dX11_line_77 (by decide) ?_
        exact x_ireturn dX11_line_78 rfl rfl (hno (fun z => by first | exact h5 z.2.1 | exact h17 z.2.2.1 | exact h24 z.2.2.2.1 | exact h36 z.2.2.2.2.1 | exact h48 ⟨z.2.2.2.2.2.1, z.2.2.2.2.2.2.1⟩ | exact absurd (hlt.mp z.1) (Int32.not_lt.mpr h61) | exact z.2.2.2.2.2.2.2 h74))
      · refine x_iload dX11_line_27 rfl ?_
        refine x_bipush (v := -9) dX11_line_29 (by decide) ?_
        refine x_bipush (v := 9) dX11_line_31 (by decide) ?_
        refine x_cS3 dX11_line_33 ls_X11_92 rfl  (c_X11_isWithin ?_)
        refine x_if_eq_b (tgt := 77) dX11_line_36 (by decide) (fun h36 => ?_) (fun h36 => ?_)
        · refine x_iconst (v := -1) dX11_line_77 (by decide) ?_
          exact x_ireturn dX11_line_78 rfl rfl (hno (fun z => by first | exact h5 z.2.1 | exact h17 z.2.2.1 | exact h24 z.2.2.2.1 | exact h36 z.2.2.2.2.1 | exact h48 ⟨z.2.2.2.2.2.1, z.2.2.2.2.2.2.1⟩ | exact absurd (hlt.mp z.1) (Int32.not_lt.mpr h61) | exact z.2.2.2.2.2.2.2 h74))
        · refine x_aload_n dX11_line_39 rfl rfl ?_
          refine x_iload_n dX11_line_40 rfl rfl ?_
          refine x_iload dX11_line_41 rfl ?_
          refine x_iload dX11_line_43 rfl ?_
          refine x_cV3 dX11_line_45 lv_X11_118 (kc hi kf_0) rfl rfl rfl  (c_X11_isHearing hW0 ?_)
          refine x_if_eq_b (tgt := 77) dX11_line_48 (by decide) (fun h48 => ?_) (fun h48 => ?_)
          · refine x_iconst (v := -1) dX11_line_77 (by decide) ?_
            exact x_ireturn dX11_line_78 rfl rfl (hno (fun z => by first | exact h5 z.2.1 | exact h17 z.2.2.1 | exact h24 z.2.2.2.1 | exact h36 z.2.2.2.2.1 | exact h48 ⟨z.2.2.2.2.2.1, z.2.2.2.2.2.2.1⟩ | exact absurd (hlt.mp z.1) (Int32.not_lt.mpr h61) | exact z.2.2.2.2.2.2.2 h74))
          · refine x_aload_n dX11_line_51 rfl rfl ?_
            refine x_getf dX11_line_52 lf_X11_16 (kc hi kf_0) kv_0_2 ?_
            refine x_cV0 dX11_line_55 lv_X11_100 (hD.lc 2 li_2) rfl rfl rfl (c_lsz_2 hD ?_)
            refine x_sipush (v := 200) dX11_line_58 (by decide) ?_
            refine x_icmp_ge (tgt := 77) dX11_line_61 (by decide) (fun h61 => ?_) (fun h61 => ?_)
            · refine x_iconst (v := -1) dX11_line_77 (by decide) ?_
              exact x_ireturn dX11_line_78 rfl rfl (hno (fun z => by first | exact h5 z.2.1 | exact h17 z.2.2.1 | exact h24 z.2.2.2.1 | exact h36 z.2.2.2.2.1 | exact h48 ⟨z.2.2.2.2.2.1, z.2.2.2.2.2.2.1⟩ | exact absurd (hlt.mp z.1) (Int32.not_lt.mpr h61) | exact z.2.2.2.2.2.2.2 h74))
            · refine x_aload_n dX11_line_64 rfl rfl ?_
              refine x_iload_n dX11_line_65 rfl rfl ?_
              refine x_iload_n dX11_line_66 rfl rfl ?_
              refine x_aload_n dX11_line_67 rfl rfl ?_
              refine x_getf dX11_line_68 lf_X11_88 (kc hi kf_0) kv_0_0 ?_
              rw [hK.1]
              refine x_cV3 dX11_line_71 lv_X11_121 (kc hi kf_0) rfl rfl rfl  (c_X11_hasStoppedBy hW0 ?_)
              refine x_if_eq_b (tgt := 79) dX11_line_74 (by decide) (fun h74 => ?_) (fun h74 => ?_)
              · obtain ⟨hp1, hp2⟩ := hc.b 15 (b := 24) (by decide)
                obtain ⟨pj, hpj, hpe⟩ := of_lt h5.1 h5.2 hp1 (by omega)
                refine x_aload_n dX11_line_79 rfl rfl ?_
                refine x_getf dX11_line_80 lf_X11_16 (kc hi kf_0) kv_0_2 ?_
                refine x_new (q := (_, _, _)) dX11_line_83 (show vwCl[2]? = some _ from rfl) tb367 (by decide) (fun a83 hn83 => ?_)
                refine x_dup dX11_line_86 rfl ?_
                refine x_aload_n dX11_line_87 rfl rfl ?_
                refine x_getf dX11_line_88 lf_X11_10 (by rw [mset_ne (fr_ne hn83 (kc hi kf_0))]; exact kc hi kf_0) kv_0_1 ?_
                refine x_iload_n dX11_line_91 rfl rfl ?_
                rw [hpe]
                refine x_cV1 dX11_line_92 lv_X11_126 (by rw [mset_ne (fr_ne hn83 (hD.lc 1 li_1))]; exact hD.lc 1 li_1) rfl rfl rfl  (c_lgetF (k := 1) hD li_1 hn83 hpj ?_)
                refine x_cast (q := (_, _, _)) dX11_line_95 (show vwCl[5]? = some _ from rfl) tb237 (by rw [mset_ne (fr_ne hn83 (ob_1 hD hpj))]; exact ob_1 hD hpj) ?_
                refine x_iload_n dX11_line_98 rfl rfl ?_
                refine x_iload_n dX11_line_99 rfl rfl ?_
                refine x_iload dX11_line_100 rfl ?_
                refine x_iload dX11_line_102 rfl ?_
                refine x_iload dX11_line_104 rfl ?_
                refine x_aload_n dX11_line_106 rfl rfl ?_
                refine x_getf dX11_line_107 lf_X11_88 (by rw [mset_ne (fr_ne hn83 (kc hi kf_0))]; exact kc hi kf_0) kv_0_0 ?_
                rw [hK.1]
                refine x_cI7 dX11_line_110 li_X11_130 rfl rfl  (c_X1_init mset_eq ?_)
                intro f' g0 g1 g2 g3 g4 g5 g6
                rw [mset_mset]
                refine x_rV1 dX11_line_113 lv_X11_108 (by rw [mset_ne (fr_ne hn83 (hD.lc 2 li_2))]; exact hD.lc 2 li_2) rfl rfl rfl ⟨by decide, by decide⟩ (c_lst_add (k := 2) (liN σ a b c e g w) hi hD li_2 (by decide) hZ hn83 rfl tb1760 (by show cn σ 16 ≤ 266; omega) hn1 (s2_of (k := 2) rfl li_2) (fun _ => s3_L (k := 2) li_2 [(8, a), (9, b), (10, c), (11, e), (12, g), (13, w), (14, (σ.1 1))] rfl) (fun r _ => rfl) (fun j hj => ?_) (liN_L hD.2.2.2.2.2 e1 e2 h5) ?_)
                · match j, hj with
                  | 0, _ => rw [g0]; show Value.ref (ω 1 pj) = Value.ref (ω 1 (updB (σ.2 8) (cn σ 16) a (cn σ 16)).toNatClampNeg); rw [updB_eq, hpe, nI_clamp (by omega)]
                  | 1, _ => rw [g1]; exact congrArg Value.int (updB_eq (f := σ.2 9)).symm
                  | 2, _ => rw [g2]; exact congrArg Value.int (updB_eq (f := σ.2 10)).symm
                  | 3, _ => rw [g3]; exact congrArg Value.int (updB_eq (f := σ.2 11)).symm
                  | 4, _ => rw [g4]; exact congrArg Value.int (updB_eq (f := σ.2 12)).symm
                  | 5, _ => rw [g5]; exact congrArg Value.int (updB_eq (f := σ.2 13)).symm
                  | 6, _ => rw [g6]; exact congrArg Value.int (updB_eq (f := σ.2 14)).symm
                intro Md' ω' ε' hD
                refine x_pop dX11_line_116 rfl ?_
                refine x_aload_n dX11_line_117 rfl rfl ?_
                refine x_getf dX11_line_118 lf_X11_16 (kc hi kf_0) kv_0_2 ?_
                refine x_cV0 dX11_line_121 lv_X11_100 (hD.lc 2 li_2) rfl rfl rfl (c_lsz_2 hD ?_)
                refine x_iconst (v := 1) dX11_line_124 (by decide) ?_
                refine x_isub dX11_line_125 ?_
                exact x_ireturn dX11_line_126 rfl rfl ((by
have hp : pLine σ a b c e g w := ⟨hlt.mpr (Int32.not_le.mp h61), h5, h17, h24, h36, h48.1, h48.2, h74⟩
have h := hq Md' ω' ε'
rw [show nLine σ a b c e g w = liN σ a b c e g w from cI_t hp, show aLine σ a b c e g w = σ.1 16 from cI_t hp] at h
refine fin (h hD) ?_
show _ = nI (cn (liN σ a b c e g w) 16) - 1
rw [hn1, ← nI_1, add_sub1]; exact e1))
              · refine x_iconst (v := -1) dX11_line_77 (by decide) ?_
                exact x_ireturn dX11_line_78 rfl rfl (hno (fun z => by first | exact h5 z.2.1 | exact h17 z.2.2.1 | exact h24 z.2.2.2.1 | exact h36 z.2.2.2.2.1 | exact h48 ⟨z.2.2.2.2.2.1, z.2.2.2.2.2.2.1⟩ | exact absurd (hlt.mp z.1) (Int32.not_lt.mpr h61) | exact z.2.2.2.2.2.2.2 h74))
end ADR
