/-! the small constructors -/
/-- putfield by the link of the declaring one -/
theorem x_putA {G : Gam} {d : Nat} {k : Nat × Nat} {Y : MR} {M : Mem} {lv : Lv} {st : List Value} {pc : Nat} {Q : Option Value → Mem → Prop} {idx ci kf n a : Nat} {f : Nat → Value} {v : Value} (hd : decode Y.2.1 pc = .ok (.putfield idx, 3)) (hlk : ∃ q : vw_C, vwCl[ci]? = some q ∧ kf < q.2.2 ∧ Cond.fieldLink Y.1.cls idx (q.2.1 kf).1 (q.2.1 kf).2.1 (q.2.1 kf).2.2.1 ∈ lw_tbl ∧ (q.2.1 kf).2.2.2 = false) (hM : M a = some (ci, n, f)) (hn : narrow (vwTy ci kf) v = v) (hfit : fits (vwTy ci kf) v = true) (kk : XJ G d k Y (mset M a (ci, n, updV f kf v)) lv st (pc + 3) Q) : XJ G d k Y M lv (v :: .ref a :: st) pc Q := by
  intro p e R s m args below meth c H locs cells slots A ls hC hH hl
  obtain ⟨q, hq, hk, hlink, hfin⟩ := hlk
  have hW := hC.2.2.2.2.2.2.2.2.1
  obtain ⟨hN, cell, q1, q2, q3, q4⟩ := cAt_obj (hH.1 a _ hM).2 hq
  have hKK := bs_K hC.1 hW
  obtain ⟨hS, hfc, kC, hkC, hkind⟩ := hKK.1 ci _ hq
  obtain ⟨cf, kf', fi, fd, hi, hsl⟩ := hS kf hk
  have hts := cl_hts (args := args) hC.1 hW hq
  have hap := vw_apart hq hts hKK
  have hst := (u_facts hfc hkC (u_lays hts (fun w h => h) hk) hi).1
  have hlay := hts _ (u_in_lay hk)
  unfold u_lay at hlay
  rw [if_neg (by rw [hfin]; decide)] at hlay
  have h6 := u_store hfc hkC hkind hlay hi (vwTy_ok hq kf hk) hn hfit
  refine W.putK hC.2.1 hC.2.2.1 (f := fd) ⟨hC.2.2.2.2.2.1, tb_good hC.1 hlink rfl hW, ⟨_, _, _, hi⟩, hst⟩ (by rw [q2]; exact h6) q1 q3 (by rw [hsl]; exact k2_hasslot (q4 kf hk)) rfl rfl hd fun H' e1 e2 e3 => ?_
  rw [hsl] at e1 ⊢
  refine kk p e R s m args below meth c H' _ cells slots A ls hC (XH_set hH hM e2 e3 ?_) hl
  exact Or.inl ⟨Nat.lt_of_lt_of_le (vw_lt hq) (by decide), q, hq, hN, _, e1, q2, q3, t_set q4 hap hk v⟩
section KCI
variable {G : Gam} {d : Nat} {M M0 : Mem} {Q : Option Value → Mem → Prop} {m e : Nat}
theorem c_Jxa_init (hq : Q none M) : CT G (d + 1) (0, 0) MJxa1e45_init_da8c8 [.ref m] M Q := by
  refine CT.of rfl (Nat.le_of_ble_eq_true rfl) ?_
  refine x_aload_n dJxa1e45_init_da8c8_0 rfl rfl ?_
  refine x_objInit dJxa1e45_init_da8c8_1 tb51 (Nat.le_of_ble_eq_true rfl) ?_
  exact x_return dJxa1e45_init_da8c8_4 rfl (hq)
theorem c_Jxc_init {f : Nat → Value} (hm : M m = some (0, 3, f)) (hq : Q none (mset M m (0, 3, updV f 0 (.int 0)))) : CT G (d + 2) (0, 0) MJxc12de_init_da8c8 [.ref m] M Q := by
  refine CT.of rfl (Nat.le_of_ble_eq_true rfl) ?_
  refine x_aload_n dJxc12de_init_da8c8_0 rfl rfl ?_
  refine x_cI0 dJxc12de_init_da8c8_1 li_Jxc12de_1 rfl rfl (c_Jxa_init ?_)
  refine x_aload_n dJxc12de_init_da8c8_4 rfl rfl ?_
  refine x_iconst (v := 0) dJxc12de_init_da8c8_5 (by decide) ?_
  refine x_putA (ci := 0) (kf := 0) dJxc12de_init_da8c8_6 ⟨_, rfl, by decide, tb56, rfl⟩ hm rfl rfl ?_
  exact x_return dJxc12de_init_da8c8_9 rfl hq
theorem c_lst_init (hm : M m = some (0, 3, fun j => defaultValue (vwTy 0 j))) (hE : OldE G e) (hq : Q none (mset M m (0, 3, fL 0 e (nI 0)))) : CT G (d + 3) (0, 0) MJx4a65c_init_da8c8 [.ref m] M Q := by
  refine CT.of rfl (Nat.le_of_ble_eq_true rfl) ?_
  refine x_aload_n dJx4a65c_init_da8c8_0 rfl rfl ?_
  refine x_cI0 dJx4a65c_init_da8c8_1 li_Jx4a65c_1 rfl rfl (c_Jxc_init hm ?_)
  refine x_aload_n dJx4a65c_init_da8c8_4 rfl rfl ?_
  refine x_gets dJx4a65c_init_da8c8_5 hE.2 tb52 rfl ?_
  refine x_putf dJx4a65c_init_da8c8_8 lp_Jx4a65c_9 mset_eq rfl rfl ?_
  rw [mset_mset]
  refine x_mext (M' := mset M m (0, 3, fL 0 e (nI 0))) (fun b c' hb => ?_) (x_return dJx4a65c_init_da8c8_11 rfl hq)
  by_cases z : b = m
  · rw [z, mset_eq] at hb
    cases hb
    rw [z]
    refine ⟨_, mset_eq, fun j hj => ?_⟩
    match j, hj with
    | 0, _ => rfl
    | 1, _ => rfl
    | 2, _ => rfl
  · rw [mset_ne z] at hb
    exact ⟨c'.2.2, by rw [mset_ne z]; exact hb, fun _ _ => rfl⟩
end KCI
section KCJ
variable {G : Gam} {d : Nat} {Q : Option Value → Mem → Prop}
theorem c_X9_init {M0 : Mem} {m : Nat} (hm : M0 m = some (10, 5, fun j => defaultValue (vwTy 10 j))) (hq : ∀ (M : Mem) (a0 a3 : Nat), OI M M0 m 10 5 (fun j => defaultValue (vwTy 10 j)) [(3, a3, 100, 160), (0, a0, 102, 160)] → Q none M) : CT G (d + 1) (2, 320) MX9_init [.ref m] M0 Q := by
  refine CT.of rfl (Nat.le_of_ble_eq_true rfl) ?_
  have hI := OI.ini hm
  refine x_aload_n dX9_init_0 rfl rfl ?_
  refine x_objInit dX9_init_1 tb71 (Nat.le_of_ble_eq_true rfl) ?_
  refine x_aload_n dX9_init_4 rfl rfl ?_
  refine x_sipush (v := 160) dX9_init_5 (by decide) ?_
  refine x_mk (kc := 1) (ks := 160) (ci := 102) (N := 160) (kf := 0) hI dX9_init_8 rfl (by decide) (by decide) tb88 (by decide) rfl (by decide) (fun M1 f h hM kk => x_putF dX9_init_10 lp_X9_11 rfl hM rfl rfl kk) (fun M0 a0 hI0 => ?_)
  clear hI
  refine x_aload_n dX9_init_13 rfl rfl ?_
  refine x_sipush (v := 160) dX9_init_14 (by decide) ?_
  refine x_mk (kc := 0) (ks := 0) (ci := 100) (N := 160) (kf := 3) hI0 dX9_init_17 rfl (by decide) (by decide) tb89 (by decide) rfl (by decide) (fun M1 f h hM kk => x_putF dX9_init_19 lp_X9_15 rfl hM rfl rfl kk) (fun M3 a3 hI3 => ?_)
  clear hI0
  exact x_return dX9_init_22 rfl (hq _ _ _ hI3)
theorem c_X8_init {M0 : Mem} {m : Nat} (hm : M0 m = some (9, 9, fun j => defaultValue (vwTy 9 j))) (hq : ∀ (M : Mem) (a0 a1 a3 a4 a6 a7 : Nat), OI M M0 m 9 9 (fun j => defaultValue (vwTy 9 j)) [(7, a7, 100, 8), (6, a6, 100, 8), (4, a4, 100, 8), (3, a3, 100, 8), (1, a1, 100, 4), (0, a0, 100, 4)] → Q none M) : CT G (d + 1) (6, 40) MX8_init [.ref m] M0 Q := by
  refine CT.of rfl (Nat.le_of_ble_eq_true rfl) ?_
  have hI := OI.ini hm
  refine x_aload_n dX8_init_0 rfl rfl ?_
  refine x_objInit dX8_init_1 tb95 (Nat.le_of_ble_eq_true rfl) ?_
  refine x_aload_n dX8_init_4 rfl rfl ?_
  refine x_iconst (v := 4) dX8_init_5 (by decide) ?_
  refine x_mk (kc := 5) (ks := 36) (ci := 100) (N := 4) (kf := 0) hI dX8_init_6 rfl (by decide) (by decide) tb89 (by decide) rfl (by decide) (fun M1 f h hM kk => x_putF dX8_init_8 lp_X8_11 rfl hM rfl rfl kk) (fun M0 a0 hI0 => ?_)
  clear hI
  refine x_aload_n dX8_init_11 rfl rfl ?_
  refine x_iconst (v := 4) dX8_init_12 (by decide) ?_
  refine x_mk (kc := 4) (ks := 32) (ci := 100) (N := 4) (kf := 1) hI0 dX8_init_13 rfl (by decide) (by decide) tb89 (by decide) rfl (by decide) (fun M1 f h hM kk => x_putF dX8_init_15 lp_X8_15 rfl hM rfl rfl kk) (fun M1 a1 hI1 => ?_)
  clear hI0
  refine x_aload_n dX8_init_18 rfl rfl ?_
  refine x_bipush (v := 8) dX8_init_19 (by decide) ?_
  refine x_mk (kc := 3) (ks := 24) (ci := 100) (N := 8) (kf := 3) hI1 dX8_init_21 rfl (by decide) (by decide) tb89 (by decide) rfl (by decide) (fun M1 f h hM kk => x_putF dX8_init_23 lp_X8_18 rfl hM rfl rfl kk) (fun M3 a3 hI3 => ?_)
  clear hI1
  refine x_aload_n dX8_init_26 rfl rfl ?_
  refine x_bipush (v := 8) dX8_init_27 (by decide) ?_
  refine x_mk (kc := 2) (ks := 16) (ci := 100) (N := 8) (kf := 4) hI3 dX8_init_29 rfl (by decide) (by decide) tb89 (by decide) rfl (by decide) (fun M1 f h hM kk => x_putF dX8_init_31 lp_X8_21 rfl hM rfl rfl kk) (fun M4 a4 hI4 => ?_)
  clear hI3
  refine x_aload_n dX8_init_34 rfl rfl ?_
  refine x_bipush (v := 8) dX8_init_35 (by decide) ?_
  refine x_mk (kc := 1) (ks := 8) (ci := 100) (N := 8) (kf := 6) hI4 dX8_init_37 rfl (by decide) (by decide) tb89 (by decide) rfl (by decide) (fun M1 f h hM kk => x_putF dX8_init_39 lp_X8_24 rfl hM rfl rfl kk) (fun M6 a6 hI6 => ?_)
  clear hI4
  refine x_aload_n dX8_init_42 rfl rfl ?_
  refine x_bipush (v := 8) dX8_init_43 (by decide) ?_
  refine x_mk (kc := 0) (ks := 0) (ci := 100) (N := 8) (kf := 7) hI6 dX8_init_45 rfl (by decide) (by decide) tb89 (by decide) rfl (by decide) (fun M1 f h hM kk => x_putF dX8_init_47 lp_X8_27 rfl hM rfl rfl kk) (fun M7 a7 hI7 => ?_)
  clear hI6
  exact x_return dX8_init_50 rfl (hq _ _ _ _ _ _ _ hI7)
theorem c_X10_init {M0 : Mem} {m : Nat} (hm : M0 m = some (11, 3, fun j => defaultValue (vwTy 11 j))) (hq : ∀ (M : Mem) (a0 a1 : Nat), OI M M0 m 11 3 (fun j => defaultValue (vwTy 11 j)) [(1, a1, 100, 200), (0, a0, 100, 200)] → Q none M) : CT G (d + 1) (2, 400) MX10_init [.ref m] M0 Q := by
  refine CT.of rfl (Nat.le_of_ble_eq_true rfl) ?_
  have hI := OI.ini hm
  refine x_aload_n dX10_init_0 rfl rfl ?_
  refine x_objInit dX10_init_1 tb129 (Nat.le_of_ble_eq_true rfl) ?_
  refine x_aload_n dX10_init_4 rfl rfl ?_
  refine x_sipush (v := 200) dX10_init_5 (by decide) ?_
  refine x_mk (kc := 1) (ks := 200) (ci := 100) (N := 200) (kf := 0) hI dX10_init_8 rfl (by decide) (by decide) tb89 (by decide) rfl (by decide) (fun M1 f h hM kk => x_putF dX10_init_10 lp_X10_9 rfl hM rfl rfl kk) (fun M0 a0 hI0 => ?_)
  clear hI
  refine x_aload_n dX10_init_13 rfl rfl ?_
  refine x_sipush (v := 200) dX10_init_14 (by decide) ?_
  refine x_mk (kc := 0) (ks := 0) (ci := 100) (N := 200) (kf := 1) hI0 dX10_init_17 rfl (by decide) (by decide) tb89 (by decide) rfl (by decide) (fun M1 f h hM kk => x_putF dX10_init_19 lp_X10_15 rfl hM rfl rfl kk) (fun M1 a1 hI1 => ?_)
  clear hI0
  exact x_return dX10_init_22 rfl (hq _ _ _ hI1)
theorem c_X3_init {M0 : Mem} {m : Nat} (hm : M0 m = some (4, 2, fun j => defaultValue (vwTy 4 j))) (hq : ∀ (M : Mem) (a0 : Nat), OI M M0 m 4 2 (fun j => defaultValue (vwTy 4 j)) [(0, a0, 100, 160)] → Q none M) : CT G (d + 1) (1, 160) MX3_init [.ref m] M0 Q := by
  refine CT.of rfl (Nat.le_of_ble_eq_true rfl) ?_
  have hI := OI.ini hm
  refine x_aload_n dX3_init_0 rfl rfl ?_
  refine x_objInit dX3_init_1 tb158 (Nat.le_of_ble_eq_true rfl) ?_
  refine x_aload_n dX3_init_4 rfl rfl ?_
  refine x_sipush (v := 160) dX3_init_5 (by decide) ?_
  refine x_mk (kc := 0) (ks := 0) (ci := 100) (N := 160) (kf := 0) hI dX3_init_8 rfl (by decide) (by decide) tb89 (by decide) rfl (by decide) (fun M1 f h hM kk => x_putF dX3_init_10 lp_X3_9 rfl hM rfl rfl kk) (fun M0 a0 hI0 => ?_)
  clear hI
  exact x_return dX3_init_13 rfl (hq _ _ hI0)
end KCJ
