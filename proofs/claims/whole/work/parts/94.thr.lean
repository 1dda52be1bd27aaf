/-! told throws; the law's told catches -/
def nsB : List Cond := [.declares ⟨"java/lang/RuntimeException", "<init>", "(Ljava/lang/String;)V"⟩, .declares ⟨"java/lang/Exception", "<init>", "(Ljava/lang/String;)V"⟩, .declares ⟨"java/lang/Throwable", "<init>", "(Ljava/lang/String;)V"⟩]
theorem ns_in : ∀ w ∈ nsAt RX11 143, w ∈ tables_1 := by decide +kernel
theorem ns_bad : ∀ w ∈ (nsAt RX11 143).filter (fun w => !goodWord w), w ∈ nsB := by decide +kernel
theorem ns_ot : ∀ w ∈ Cond.classLink RX11 139 nsE :: Cond.initialized nsE :: nsAt RX11 143, vx_ot w = true := by decide +kernel
section THR
variable {G : Gam} {d : Nat} {τ : Nat → Nat} {ω : Nat → Nat → Nat} {ε : Nat → Nat} {σ κ : MS} {Md : Mem} {M : Mem} {Q : Option Value → Mem → Prop} {QE : Mem → Prop}
theorem c_X11_told {l w : Int32} (hW : Wld G τ ω ε σ κ Md) (hT : ThOK G) (hok : pTold σ l w → Q (some (.int (vTold σ l.toNatClampNeg w))) (cm τ κ Md)) (hno : ¬ pTold σ l w → QE (cm τ κ Md)) : CTX G (d + 6) (1, 6) MX11_told [.ref (τ 0), .int l, .int w] (cm τ κ Md) Q QE := by
  have hW0 := hW
  obtain ⟨hi, hc, hD, hK⟩ := hW
  obtain ⟨e1, e2⟩ := hc.b 16 (b := 200) (by decide)
  obtain ⟨hT1, hT2, hT3, tx, sa, hR⟩ := hT
  have hnorm : pTold σ l w → XJ G (d + 6) (1, 6) MX11_told (cm τ κ Md) (lv_args 0 [.ref (τ 0), .int l, .int w]) [] 28 Q := by
    intro hp
    have hq := hok hp
    obtain ⟨j, hj, hlj⟩ := of_lt hp.1.1 hp.1.2 e1 (by omega)
    obtain ⟨v, hv, hwv⟩ := of_le (n := 6) hp.2.1 hp.2.2 rfl (by decide)
    subst hlj
    subst hwv
    rw [nI_clamp (by omega)] at hq
    refine x_aload_n dX11_told_28 rfl rfl ?_
    refine x_getf dX11_told_29 lf_X11_16 (kc hi kf_0) kv_0_2 ?_
    refine x_iload_n dX11_told_32 rfl rfl ?_
    refine x_cV1 dX11_told_33 lv_X11_126 (hD.lc 2 li_2) rfl rfl rfl (c_lget (k := 2) hD li_2 hj ?_)
    refine x_cast (q := (_, _, _)) dX11_told_36 (show vwCl[2]? = some _ from rfl) tb367 (ob_2 hD hj) ?_
    refine x_iload_n dX11_told_39 rfl rfl ?_
    refine x_cV1 dX11_told_40 lv_X11_146 (ob_2 hD hj) rfl rfl rfl  (c_X1_part hi hD hj hv ?_)
    exact x_ireturn dX11_told_43 rfl rfl (hq)
  have hthr : ¬ pTold σ l w → XG G (d + 6) (1, 6) MX11_told (cm τ κ Md) (lv_args 0 [.ref (τ 0), .int l, .int w]) [] 18 (fun c => ∀ x ∈ c.exceptionTable.toList, False) (TX G Q QE) := by
    intro hn p e R s m args below meth c H locs cells slots A ls hC hH hl hP
    have hWm := hC.2.2.2.2.2.2.2.2.1
    have hfr : R.frames = d + 6 := hC.2.2.2.2.2.2.2.2.2.1
    have hlo : R.locals = 64 * (d + 6) := hC.2.2.2.2.2.2.2.2.2.2.1
    refine nsMake (cc := MX11_told.2.1) (own := RX11) (text := tx) (ik := 139) (is := 141) (ic := 143) (sa := sa) (A := A) hC.2.1 hC.2.2.1 hT1 hC.2.2.2.2.2.1 (tb_good hC.1 tb1113 rfl hWm) (tb_good hC.1 tb22 rfl hWm) (vk_R.warm hWm hR) ?_ ns_ot (hC.oQ hT2) (hC.oQ hT3) hH.2.2.1 (by rw [hC.2.2.2.2.1]; exact hl.1) dX11_told_18 dX11_told_21 dX11_told_22 dX11_told_24 (by omega) (by rw [hlo]; show 0 + 82 ≤ _; omega) (Nat.le_trans (Nat.add_le_add_left (Nat.le_refl 1) _) hH.2.2.2.1) (Nat.le_trans (Nat.add_le_add_left (Nat.le_refl 6) _) hH.2.2.2.2) ?_
    · refine vx_hat (B := nsB) (fun w hw => ?_) ns_bad ?_
      · obtain ⟨h1, h2⟩ := List.mem_filter.mp hw
        exact tb_good hC.1 (tb_r (ns_in w h1)) h2 hWm
      · exact vx_c (tb_decl hC.1 tb1117 hWm) (vx_c (tb_decl hC.1 tb1119 hWm) (vx_c (tb_decl hC.1 tb1121 hWm) vx_n))
    · intro q H1 ce hz hkeep hce hvm hcl hS1
      refine vx_athrow hC.2.1 hC.2.2.1 dX11_told_27 ?_
      refine vx_out (E := nsE) (ce := ce) (fun x hx => absurd (hP x hx) id) hC.2.2.2.2.2.2.1 hce hvm hcl (fun t ht _ => ⟨rfl, ⟨cm τ κ Md, hno hn, fun a c0 h0 => ⟨(hH.1 a c0 h0).1, ?_⟩, hH.2.1⟩, hS1.F ht⟩) hH.2.2.1.2.2 hH.2.2.2.1 hH.2.2.2.2
      rw [ht]
      exact cAt_kept (hH.1 a c0 h0).2 (hkeep a (cAt_lt (hH.1 a c0 h0).2))
  refine CTX.of rfl (Nat.le_of_ble_eq_true rfl) ?_
  refine g_aload_n dX11_told_0 rfl rfl ?_
  refine g_iload_n dX11_told_1 rfl rfl ?_
  refine g_cV1 dX11_told_2 lv_X11_136 (kc hi kf_0) rfl rfl rfl (c_X11_isLine hW0 ?_)
  refine g_if_eq_b (tgt := 18) dX11_told_5 (by decide) (fun h5 => hthr (fun z => h5 z.1)) (fun h5 => ?_)
  refine g_iload_n dX11_told_8 rfl rfl ?_
  refine g_iconst (v := 0) dX11_told_9 (by decide) ?_
  refine g_bipush (v := 6) dX11_told_10 (by decide) ?_
  refine g_cS3 dX11_told_12 ls_X11_92 rfl (c_X11_isWithin ?_)
  exact g_if_ne_b (tgt := 28) dX11_told_15 (by decide) (fun h15 => XG.ret (hnorm ⟨h5, h15⟩)) (fun h15 => hthr (fun z => h15 z.2))
end THR
