/-! the class, 26: digests' size, a line's strength, what a digest asks for -/
theorem Lr_0 {κ : MS} : Lr (filR κ 13 8 0) [0, 0, 0, 0, 0, 0, 0, 0] := ⟨rfl, fun i hi2 => by
  rw [filR_eq]
  show (if i < 8 then (0 : Int32) else _) = _
  rw [if_pos hi2]
  have : i = 0 ∨ i = 1 ∨ i = 2 ∨ i = 3 ∨ i = 4 ∨ i = 5 ∨ i = 6 ∨ i = 7 := by omega
  rcases this with rfl | rfl | rfl | rfl | rfl | rfl | rfl | rfl <;> rfl⟩
section DGS
variable {G : Gam} {d : Nat} {τ : Nat → Nat} {ω : Nat → Nat → Nat} {ε : Nat → Nat} {σ κ : MS} {Md : Mem} {M : Mem} {Q : Option Value → Mem → Prop} {k : Nat}
theorem c_X11_strengthOf {j : Nat} (hW : Wld G τ ω ε σ κ Md) (hj : j < cn σ 16) (hq : Q (some (.int (keyM σ j))) (cm τ κ Md)) : CT G (d + 3) (0, 0) MX11_strengthOf [.ref (τ 0), .int (nI j)] (cm τ κ Md) Q := by
  have hW0 := hW
  obtain ⟨hi, hc, hD, hK⟩ := hW
  obtain ⟨e1, e2⟩ := hc.b 16 (b := 200) (by decide)
  refine CT.of rfl (Nat.le_of_ble_eq_true rfl) ?_
  refine x_aload_n dX11_strengthOf_0 rfl rfl ?_
  refine x_iload_n dX11_strengthOf_1 rfl rfl ?_
  refine x_cV1 dX11_strengthOf_2 lv_X11_136 (kc hi kf_0) rfl rfl rfl  (c_X11_isLine hW0 ?_)
  refine x_if_eq_b (tgt := 28) dX11_strengthOf_5 (by decide) (fun z => absurd ⟨nI_pos' (by omega), by rw [e1]; exact nI_lt hj (by omega)⟩ z) (fun _ => ?_)
  refine x_aload_n dX11_strengthOf_8 rfl rfl ?_
  refine x_getf dX11_strengthOf_9 lf_X11_16 (kc hi kf_0) kv_0_2 ?_
  refine x_iload_n dX11_strengthOf_12 rfl rfl ?_
  refine x_cV1 dX11_strengthOf_13 lv_X11_126 (hD.lc 2 li_2) rfl rfl rfl (c_lget (k := 2) hD li_2 hj ?_)
  refine x_cast (q := (_, _, _)) dX11_strengthOf_16 (show vwCl[2]? = some _ from rfl) tb367 (ob_2 hD hj) ?_
  refine x_getf dX11_strengthOf_19 lf_X11_250 (ob_2 hD hj) ov_2_3 ?_
  refine x_cS1 dX11_strengthOf_22 ls_X11_285 rfl  (c_J9_abs_0f7a4 ?_)
  refine x_goto (tgt := 29) dX11_strengthOf_25 (by decide) ?_
  exact x_ireturn dX11_strengthOf_29 rfl rfl (hq)
theorem dg_t {σ : MS} {a b c q : Int32} (h1 : isD a) (h2 : isD b) (h3 : ¬ b < a) (h4 : isS c) (h5 : isK σ q) : bI (pDig σ a b c q) = 1 := bI_t ⟨h1, ⟨Int32.not_lt.mp h3, h2.2⟩, h4, h5⟩
theorem dg_1 {σ : MS} {a b c q : Int32} (h1 : ¬ isD a) : bI (pDig σ a b c q) = 0 := bI_f (fun z => h1 z.1)
theorem dg_2 {σ : MS} {a b c q : Int32} (h1 : ¬ isD b) : bI (pDig σ a b c q) = 0 := bI_f (fun z => h1 ⟨Int32.le_trans z.1.1 z.2.1.1, z.2.1.2⟩)
theorem dg_3 {σ : MS} {a b c q : Int32} (h1 : b < a) : bI (pDig σ a b c q) = 0 := bI_f (fun z => absurd h1 (Int32.not_lt.mpr z.2.1.1))
theorem dg_4 {σ : MS} {a b c q : Int32} (h1 : ¬ isS c) : bI (pDig σ a b c q) = 0 := bI_f (fun z => h1 z.2.2.1)
theorem dg_5 {σ : MS} {a b c q : Int32} (h1 : ¬ isK σ q) : bI (pDig σ a b c q) = 0 := bI_f (fun z => h1 z.2.2.2)
theorem c_X11_isDigest {of' day rank q : Int32} (hW : Wld G τ ω ε σ κ Md) (hq : Q (some (.int (bI (pDig σ of' day rank q)))) (cm τ κ Md)) : CT G (d + 2) (0, 0) MX11_isDigest [.ref (τ 0), .int of', .int day, .int rank, .int q] (cm τ κ Md) Q := by
  have hW0 := hW
  obtain ⟨hi, hc, hD, hK⟩ := hW
  refine CT.of rfl (Nat.le_of_ble_eq_true rfl) ?_
  refine x_iload_n dX11_isDigest_0 rfl rfl ?_
  refine x_cS1 dX11_isDigest_1 ls_X11_150 rfl  (c_X11_isDay ?_)
  refine x_if_eq_b (tgt := 39) dX11_isDigest_4 (by decide) (fun h4 => ?_) (fun h4 => ?_)
  · refine x_iconst (v := 0) dX11_isDigest_39 (by decide) ?_
    exact x_ireturn dX11_isDigest_40 rfl rfl (fin hq (by first | exact dg_t h4 h11 h16 h23 h32 | exact dg_1 h4 | exact dg_2 h11 | exact dg_3 h16 | exact dg_4 h23 | exact dg_5 h32))
  · refine x_iload_n dX11_isDigest_7 rfl rfl ?_
    refine x_cS1 dX11_isDigest_8 ls_X11_150 rfl  (c_X11_isDay ?_)
    refine x_if_eq_b (tgt := 39) dX11_isDigest_11 (by decide) (fun h11 => ?_) (fun h11 => ?_)
    · refine x_iconst (v := 0) dX11_isDigest_39 (by decide) ?_
      exact x_ireturn dX11_isDigest_40 rfl rfl (fin hq (by first | exact dg_t h4 h11 h16 h23 h32 | exact dg_1 h4 | exact dg_2 h11 | exact dg_3 h16 | exact dg_4 h23 | exact dg_5 h32))
    · refine x_iload_n dX11_isDigest_14 rfl rfl ?_
      refine x_iload_n dX11_isDigest_15 rfl rfl ?_
      refine x_icmp_lt (tgt := 39) dX11_isDigest_16 (by decide) (fun h16 => ?_) (fun h16 => ?_)
      · refine x_iconst (v := 0) dX11_isDigest_39 (by decide) ?_
        exact x_ireturn dX11_isDigest_40 rfl rfl (fin hq (by first | exact dg_t h4 h11 h16 h23 h32 | exact dg_1 h4 | exact dg_2 h11 | exact dg_3 h16 | exact dg_4 h23 | exact dg_5 h32))
      · refine x_iload_n dX11_isDigest_19 rfl rfl ?_
        refine x_cS1 dX11_isDigest_20 ls_X11_235 rfl  (c_X11_isRank ?_)
        refine x_if_eq_b (tgt := 39) dX11_isDigest_23 (by decide) (fun h23 => ?_) (fun h23 => ?_)
        · refine x_iconst (v := 0) dX11_isDigest_39 (by decide) ?_
          exact x_ireturn dX11_isDigest_40 rfl rfl (fin hq (by first | exact dg_t h4 h11 h16 h23 h32 | exact dg_1 h4 | exact dg_2 h11 | exact dg_3 h16 | exact dg_4 h23 | exact dg_5 h32))
        · refine x_aload_n dX11_isDigest_26 rfl rfl ?_
          refine x_iload dX11_isDigest_27 rfl ?_
          refine x_cV1 dX11_isDigest_29 lv_X11_158 (kc hi kf_0) rfl rfl rfl  (c_X11_isKnownDay hW0 ?_)
          refine x_if_eq_b (tgt := 39) dX11_isDigest_32 (by decide) (fun h32 => ?_) (fun h32 => ?_)
          · refine x_iconst (v := 0) dX11_isDigest_39 (by decide) ?_
            exact x_ireturn dX11_isDigest_40 rfl rfl (fin hq (by first | exact dg_t h4 h11 h16 h23 h32 | exact dg_1 h4 | exact dg_2 h11 | exact dg_3 h16 | exact dg_4 h23 | exact dg_5 h32))
          · refine x_iconst (v := 1) dX11_isDigest_35 (by decide) ?_
            refine x_goto (tgt := 40) dX11_isDigest_36 (by decide) ?_
            exact x_ireturn dX11_isDigest_40 rfl rfl (fin hq (by first | exact dg_t h4 h11 h16 h23 h32 | exact dg_1 h4 | exact dg_2 h11 | exact dg_3 h16 | exact dg_4 h23 | exact dg_5 h32))
end DGS
