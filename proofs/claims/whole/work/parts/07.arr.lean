/-! arrays, new objects, casts, constants, references, switches -/
theorem cb8 (t : FieldType) : componentBytes t ≤ 8 := by cases t <;> simp [componentBytes]
section XA
variable {G : Gam} {d : Nat} {k : Nat × Nat} {Y : MR} {M : Mem} {lv : Lv} {st : List Value} {pc : Nat} {Q : Option Value → Mem → Prop}
theorem arr_in {cA : ClassId} {n : Nat} {f : Nat → Value} {i : Int32} (h : vp_in i n) : ¬ (i < 0 ∨ (arrV cA n f).slots.size ≤ i.toNatClampNeg) := by rw [arrV_size]; exact h
theorem arr_rd {cA : ClassId} {n : Nat} {f : Nat → Value} {i : Int32} {v : Value} (h : vp_in i n) (hv : f i.toNatClampNeg = v) : (arrV cA n f).slots[i.toNatClampNeg]? = some v := by
  rw [arrV_read _ _ (Nat.not_le.mp fun q => h (Or.inr q)), hv]
theorem x_iaload {n a : Nat} {f : Nat → Value} {i : Int32} {v : Value} (hd : decode Y.2.1 pc = .ok (.iaload, 1)) (hM : M a = some (100, n, f)) (hin : vp_in i n) (hv : f i.toNatClampNeg = v) (kk : XJ G d k Y M lv (v :: st) (pc + 1) Q) : XJ G d k Y M lv (.int i :: .ref a :: st) pc Q := by
  intro p e R s m args below meth c H locs cells slots A ls hC hH hl
  have hW := hC.2.2.2.2.2.2.2.2.1
  exact W.iald hC.2.1 hC.2.2.1 (cAt_arr (hH.1 a _ hM).2 (by decide)) ((arrK_w hC.1 hW (k := 100) (by decide) (by decide)) n f) (fun z => by cases z) (arr_in hin) (arr_rd hin hv) rfl rfl hd (kk p e R s m args below meth c H locs cells slots A ls hC hH hl)
theorem x_baload {n a : Nat} {f : Nat → Value} {i : Int32} {v : Value} (hd : decode Y.2.1 pc = .ok (.baload, 1)) (hM : M a = some (101, n, f)) (hin : vp_in i n) (hv : f i.toNatClampNeg = v) (kk : XJ G d k Y M lv (v :: st) (pc + 1) Q) : XJ G d k Y M lv (.int i :: .ref a :: st) pc Q := by
  intro p e R s m args below meth c H locs cells slots A ls hC hH hl
  have hW := hC.2.2.2.2.2.2.2.2.1
  exact W.bald hC.2.1 hC.2.2.1 (cAt_arr (hH.1 a _ hM).2 (by decide)) ((arrK_w hC.1 hW (k := 101) (by decide) (by decide)) n f) (fun z => by cases z) (arr_in hin) (arr_rd hin hv) rfl rfl hd (kk p e R s m args below meth c H locs cells slots A ls hC hH hl)
theorem x_zaload {n a : Nat} {f : Nat → Value} {i : Int32} {v : Value} (hd : decode Y.2.1 pc = .ok (.baload, 1)) (hM : M a = some (103, n, f)) (hin : vp_in i n) (hv : f i.toNatClampNeg = v) (kk : XJ G d k Y M lv (v :: st) (pc + 1) Q) : XJ G d k Y M lv (.int i :: .ref a :: st) pc Q := by
  intro p e R s m args below meth c H locs cells slots A ls hC hH hl
  have hW := hC.2.2.2.2.2.2.2.2.1
  exact W.zald hC.2.1 hC.2.2.1 (cAt_arr (hH.1 a _ hM).2 (by decide)) ((arrK_w hC.1 hW (k := 103) (by decide) (by decide)) n f) (fun z => by cases z) (arr_in hin) (arr_rd hin hv) rfl rfl hd (kk p e R s m args below meth c H locs cells slots A ls hC hH hl)
theorem x_caload {n a : Nat} {f : Nat → Value} {i : Int32} {v : Value} (hd : decode Y.2.1 pc = .ok (.caload, 1)) (hM : M a = some (102, n, f)) (hin : vp_in i n) (hv : f i.toNatClampNeg = v) (kk : XJ G d k Y M lv (v :: st) (pc + 1) Q) : XJ G d k Y M lv (.int i :: .ref a :: st) pc Q := by
  intro p e R s m args below meth c H locs cells slots A ls hC hH hl
  have hW := hC.2.2.2.2.2.2.2.2.1
  exact W.cald hC.2.1 hC.2.2.1 (cAt_arr (hH.1 a _ hM).2 (by decide)) ((arrK_w hC.1 hW (k := 102) (by decide) (by decide)) n f) (fun z => by cases z) (arr_in hin) (arr_rd hin hv) rfl rfl hd (kk p e R s m args below meth c H locs cells slots A ls hC hH hl)
theorem x_laload {n a : Nat} {f : Nat → Value} {i : Int32} {v : Value} (hd : decode Y.2.1 pc = .ok (.laload, 1)) (hM : M a = some (104, n, f)) (hin : vp_in i n) (hv : f i.toNatClampNeg = v) (kk : XJ G d k Y M lv (v :: st) (pc + 1) Q) : XJ G d k Y M lv (.int i :: .ref a :: st) pc Q := by
  intro p e R s m args below meth c H locs cells slots A ls hC hH hl
  have hW := hC.2.2.2.2.2.2.2.2.1
  exact W.lald hC.2.1 hC.2.2.1 (cAt_arr (hH.1 a _ hM).2 (by decide)) ((arrK_w hC.1 hW (k := 104) (by decide) (by decide)) n f) (fun z => by cases z) (arr_in hin) (arr_rd hin hv) rfl rfl hd (kk p e R s m args below meth c H locs cells slots A ls hC hH hl)
theorem x_aaload {n a ci : Nat} {f : Nat → Value} {i : Int32} {v : Value} (hd : decode Y.2.1 pc = .ok (.aaload, 1)) (hci : ci = 105 ∨ ci = 106) (hM : M a = some (ci, n, f)) (hin : vp_in i n) (hv : f i.toNatClampNeg = v) (kk : XJ G d k Y M lv (v :: st) (pc + 1) Q) : XJ G d k Y M lv (.int i :: .ref a :: st) pc Q := by
  intro p e R s m args below meth c H locs cells slots A ls hC hH hl
  have hW := hC.2.2.2.2.2.2.2.2.1
  have h1 : 100 ≤ ci := by omega
  have h2 : ci < 107 := by omega
  have h3 : (tyA ci).isReference = true := by rcases hci with rfl | rfl <;> rfl
  exact W.aald hC.2.1 hC.2.2.1 (cAt_arr (hH.1 a _ hM).2 h1) ((arrK_w hC.1 hW (k := ci) h1 h2) n f) h3 (fun z => by cases z) (arr_in hin) (arr_rd hin hv) rfl rfl hd (kk p e R s m args below meth c H locs cells slots A ls hC hH hl)
theorem arr_st {D : va_G} {tA : Nat → ClassId} {a ci n i : Nat} {f : Nat → Value} {v : Value} {H1 : Heap} (h : 100 ≤ ci) (h1 : H1[a]? = some ((arrV (tA ci) n f).setSlot i v)) : cAt D tA a (ci, n, updV f i v) H1 :=
  Or.inr ⟨h, by rw [h1, arrV_store]⟩
theorem x_iastore {n a : Nat} {f : Nat → Value} {i x : Int32} (hd : decode Y.2.1 pc = .ok (.iastore, 1)) (hM : M a = some (100, n, f)) (hin : vp_in i n) (kk : XJ G d k Y (mset M a (100, n, updV f i.toNatClampNeg (.int x))) lv st (pc + 1) Q) : XJ G d k Y M lv (.int x :: .int i :: .ref a :: st) pc Q := by
  intro p e R s m args below meth c H locs cells slots A ls hC hH hl
  have hW := hC.2.2.2.2.2.2.2.2.1
  exact W.iast hC.2.1 hC.2.2.1 (cAt_arr (hH.1 a _ hM).2 (by decide)) ((arrK_w hC.1 hW (k := 100) (by decide) (by decide)) n f) (fun z => by cases z) (arr_in hin) rfl rfl hd (fun H1 e1 e2 e3 => kk p e R s m args below meth c H1 _ cells slots A ls hC (XH_set hH hM e2 e3 (arr_st (by decide) e1)) hl)
theorem x_bastore {n a : Nat} {f : Nat → Value} {i x : Int32} (hd : decode Y.2.1 pc = .ok (.bastore, 1)) (hM : M a = some (101, n, f)) (hin : vp_in i n) (kk : XJ G d k Y (mset M a (101, n, updV f i.toNatClampNeg (.int x.toInt8.toInt32))) lv st (pc + 1) Q) : XJ G d k Y M lv (.int x :: .int i :: .ref a :: st) pc Q := by
  intro p e R s m args below meth c H locs cells slots A ls hC hH hl
  have hW := hC.2.2.2.2.2.2.2.2.1
  exact W.bast hC.2.1 hC.2.2.1 (cAt_arr (hH.1 a _ hM).2 (by decide)) ((arrK_w hC.1 hW (k := 101) (by decide) (by decide)) n f) (fun z => by cases z) (arr_in hin) rfl rfl hd (fun H1 e1 e2 e3 => kk p e R s m args below meth c H1 _ cells slots A ls hC (XH_set hH hM e2 e3 (arr_st (by decide) e1)) hl)
theorem x_zastore {n a : Nat} {f : Nat → Value} {i x : Int32} (hd : decode Y.2.1 pc = .ok (.bastore, 1)) (hM : M a = some (103, n, f)) (hin : vp_in i n) (kk : XJ G d k Y (mset M a (103, n, updV f i.toNatClampNeg (.int (x &&& 1)))) lv st (pc + 1) Q) : XJ G d k Y M lv (.int x :: .int i :: .ref a :: st) pc Q := by
  intro p e R s m args below meth c H locs cells slots A ls hC hH hl
  have hW := hC.2.2.2.2.2.2.2.2.1
  exact W.zast hC.2.1 hC.2.2.1 (cAt_arr (hH.1 a _ hM).2 (by decide)) ((arrK_w hC.1 hW (k := 103) (by decide) (by decide)) n f) (fun z => by cases z) (arr_in hin) rfl rfl hd (fun H1 e1 e2 e3 => kk p e R s m args below meth c H1 _ cells slots A ls hC (XH_set hH hM e2 e3 (arr_st (by decide) e1)) hl)
theorem x_castore {n a : Nat} {f : Nat → Value} {i x : Int32} (hd : decode Y.2.1 pc = .ok (.castore, 1)) (hM : M a = some (102, n, f)) (hin : vp_in i n) (kk : XJ G d k Y (mset M a (102, n, updV f i.toNatClampNeg (.int x.toUInt32.toUInt16.toUInt32.toInt32))) lv st (pc + 1) Q) : XJ G d k Y M lv (.int x :: .int i :: .ref a :: st) pc Q := by
  intro p e R s m args below meth c H locs cells slots A ls hC hH hl
  have hW := hC.2.2.2.2.2.2.2.2.1
  exact W.cast hC.2.1 hC.2.2.1 (cAt_arr (hH.1 a _ hM).2 (by decide)) ((arrK_w hC.1 hW (k := 102) (by decide) (by decide)) n f) (fun z => by cases z) (arr_in hin) rfl rfl hd (fun H1 e1 e2 e3 => kk p e R s m args below meth c H1 _ cells slots A ls hC (XH_set hH hM e2 e3 (arr_st (by decide) e1)) hl)
theorem x_lastore {n a : Nat} {f : Nat → Value} {i : Int32} {x : Int64} (hd : decode Y.2.1 pc = .ok (.lastore, 1)) (hM : M a = some (104, n, f)) (hin : vp_in i n) (kk : XJ G d k Y (mset M a (104, n, updV f i.toNatClampNeg (.long x))) lv st (pc + 1) Q) : XJ G d k Y M lv (.long x :: .int i :: .ref a :: st) pc Q := by
  intro p e R s m args below meth c H locs cells slots A ls hC hH hl
  have hW := hC.2.2.2.2.2.2.2.2.1
  exact W.last hC.2.1 hC.2.2.1 (cAt_arr (hH.1 a _ hM).2 (by decide)) ((arrK_w hC.1 hW (k := 104) (by decide) (by decide)) n f) (fun z => by cases z) (arr_in hin) rfl rfl hd (fun H1 e1 e2 e3 => kk p e R s m args below meth c H1 _ cells slots A ls hC (XH_set hH hM e2 e3 (arr_st (by decide) e1)) hl)
theorem x_alen {n a ci : Nat} {f : Nat → Value} (hd : decode Y.2.1 pc = .ok (.arraylength, 1)) (h1 : 100 ≤ ci) (h2 : ci < 107) (hM : M a = some (ci, n, f)) (kk : XJ G d k Y M lv (.int (nI n) :: st) (pc + 1) Q) : XJ G d k Y M lv (.ref a :: st) pc Q := by
  intro p e R s m args below meth c H locs cells slots A ls hC hH hl
  have hW := hC.2.2.2.2.2.2.2.2.1
  exact W.alen (n := nI n) hC.2.1 hC.2.2.1 (cAt_arr (hH.1 a _ hM).2 h1) ((arrK_w hC.1 hW (k := ci) h1 h2) n f) (by rw [arrV_size]; rfl) rfl rfl hd (kk p e R s m args below meth c H locs cells slots A ls hC hH hl)
/-- new C: a fresh address -/
theorem x_new {idx ci : Nat} {q : vw_C} (hd : decode Y.2.1 pc = .ok (.new idx, 3)) (hq : vwCl[ci]? = some q) (hcl : Cond.classLink Y.1.cls idx q.1 ∈ lw_tbl) (hk : 1 ≤ k.1 ∧ q.2.2 ≤ k.2) (kk : ∀ h : Nat, M h = none → XJ G d (k.1 - 1, k.2 - q.2.2) Y (mset M h (ci, q.2.2, fun j => defaultValue (vwTy ci j))) lv (.ref h :: st) (pc + 3) Q) : XJ G d k Y M lv st pc Q := by
  intro p e R s m args below meth c H locs cells slots A ls hC hH hl
  have hW := hC.2.2.2.2.2.2.2.2.1
  have hKn := (bs_K hC.1 hW).1 ci _ hq
  have hts := cl_hts (args := args) hC.1 hW hq
  refine W.newcK hC.2.1 hC.2.2.1 hC.2.2.2.2.2.1 (tb_good hC.1 hcl rfl hW) (tb_good hC.1 (cl_ini hq).1 rfl hW) (tb_good hC.1 (cl_ini hq).2 rfl hW) rfl hd (Nat.le_trans (Nat.add_le_add_left hk.1 _) hH.2.2.2.1) (Nat.le_trans (Nat.add_le_add_left hk.2 _) hH.2.2.2.2) hKn.2.1 rfl fun H1 kC hkC e1 z1 o1 => ?_
  refine kk H.size (fresh_of hH) p e R s m args below meth c H1 locs (cells + 1) (slots + q.2.2) A ls hC (XH_new hC.2.2.2.2.2.2.2.2.2.2.2.2.2 hC.2.2.2.2.2.2.2.2.2.2.2.1 hH (by rw [z1]; exact Nat.le_succ _) o1 ?_ hk) hl
  exact Or.inl ⟨Nat.lt_of_lt_of_le (vw_lt hq) (by decide), q, hq, rfl, u_born (vwTy ci) hts (fun w h => h) hKn hkC e1 (vwTy_ok hq)⟩
theorem x_newa {at0 : ArrayType} {ci N : Nat} {i : Int32} (hd : decode Y.2.1 pc = .ok (.newarray at0, 2)) (hty : newarray.typeOf at0 = tyA ci) (h1 : 100 ≤ ci) (h2 : ci < 105) (hw : Cond.arrayClass (newarray.typeOf at0) ∈ lw_tbl) (hn : ¬ i < 0) (hN : i.toNatClampNeg = N) (hb : N ≤ 60000) (hk : 1 ≤ k.1 ∧ N ≤ k.2) (kk : ∀ h : Nat, M h = none → XJ G d (k.1 - 1, k.2 - N) Y (mset M h (ci, N, fun _ => defaultValue (tyA ci))) lv (.ref h :: st) (pc + 2) Q) : XJ G d k Y M lv (.int i :: st) pc Q := by
  intro p e R s m args below meth c H locs cells slots A ls hC hH hl
  have hW := hC.2.2.2.2.2.2.2.2.1
  refine va_newaK hC.2.1 hC.2.2.1 (tb_good hC.1 hw rfl hW) rfl hd rfl hn hN (by rw [hty]; exact Nat.le_trans (Nat.mul_le_mul hb (cb8 (tyA ci))) (by decide)) (Nat.le_trans (Nat.add_le_add_left hk.1 _) hH.2.2.2.1) (Nat.le_trans (Nat.add_le_add_left hk.2 _) hH.2.2.2.2) rfl fun H1 cA e1 z1 o1 hAr hNm => ?_
  have hcA : cA = G.2.2.2 ci := by
    have h9 := (hC.1.2.2 ci h1 (by omega)).2.1
    rw [hty] at hNm
    have h8 : s.vm.findClass ("[" ++ (tyA ci).toString) = some (G.2.2.2 ci) := by rw [hW.alike.findClass]; exact h9
    exact Option.some.inj (hNm.symm.trans h8)
  refine kk H.size (fresh_of hH) p e R s m args below meth c H1 locs (cells + 1) (slots + N) A ls hC (XH_new hC.2.2.2.2.2.2.2.2.2.2.2.2.2 hC.2.2.2.2.2.2.2.2.2.2.2.1 hH (by rw [z1]; exact Nat.le_succ _) o1 ?_ hk) hl
  exact Or.inr ⟨h1, by rw [e1, hcA, hty]⟩
theorem x_objInit {idx a : Nat} (hd : decode Y.2.1 pc = .ok (.invokespecial idx, 3)) (hl1 : Cond.methodLink Y.1.cls idx Lib.objectInit ∈ lw_tbl) (hs : (st.map fun v => v.category).sum ≤ 8) (kk : XJ G (d + 1) k Y M lv st (pc + 3) Q) : XJ G (d + 1) k Y M lv (.ref a :: st) pc Q := by
  intro p e R s m args below meth c H locs cells slots A ls hC hH hl
  have hW := hC.2.2.2.2.2.2.2.2.1
  exact W.objInit hC.2.1 hC.2.2.1 hC.2.2.2.2.2.1 (tb_good hC.1 hl1 rfl hW) (tb_good hC.1 (w := .instanceMethod Lib.objectInit) (by decide +kernel) rfl hW) (tb_good hC.1 (w := .code Lib.objectInit ⟨#[0xb1]⟩ 1 none) (by decide +kernel) rfl hW) rfl (by rw [hC.2.2.2.2.1]; exact hl.1) rfl hd (by rw [hC.2.2.2.2.2.2.2.2.2.1]; omega) (by rw [hC.2.2.2.2.2.2.2.2.2.2.1]; show 2 * 0 + _ + 12 ≤ _; omega) (kk p e R s m args below meth c H locs cells slots A ls hC hH hl)
theorem x_cast {idx a ci n : Nat} {f : Nat → Value} {q : vw_C} (hd : decode Y.2.1 pc = .ok (.checkcast idx, 3)) (hq : vwCl[ci]? = some q) (hcl : Cond.classLink Y.1.cls idx q.1 ∈ lw_tbl) (hM : M a = some (ci, n, f)) (kk : XJ G d k Y M lv (.ref a :: st) (pc + 3) Q) : XJ G d k Y M lv (.ref a :: st) pc Q := by
  intro p e R s m args below meth c H locs cells slots A ls hC hH hl
  have hW := hC.2.2.2.2.2.2.2.2.1
  have hKK := bs_K hC.1 hW
  exact va_castS hC.2.1 hC.2.2.1 hC.2.2.2.2.2.1 (tb_good hC.1 hcl rfl hW) (hKK.1 ci q hq).2 (cAt_recv (hH.1 a _ hM).2 hq hKK) hd (kk p e R s m args below meth c H locs cells slots A ls hC hH hl)
theorem x_ldc {idx : Nat} {v : Int32} (hd : decode Y.2.1 pc = .ok (.ldc idx, 2)) (hw : Cond.constant Y.1.cls idx v ∈ lw_tbl) (kk : XJ G d k Y M lv (.int v :: st) (pc + 2) Q) : XJ G d k Y M lv st pc Q :=
  fun p e R s m args below meth c H locs cells slots A ls hC hH hl => lv_ldc hC.2.1 hC.2.2.1 hC.2.2.2.2.2.1 (tb_good hC.1 hw rfl hC.2.2.2.2.2.2.2.2.1) hd (kk p e R s m args below meth c H locs cells slots A ls hC hH hl)
theorem x_ldcw {idx : Nat} {v : Int32} (hd : decode Y.2.1 pc = .ok (.ldc_w idx, 3)) (hw : Cond.constant Y.1.cls idx v ∈ lw_tbl) (kk : XJ G d k Y M lv (.int v :: st) (pc + 3) Q) : XJ G d k Y M lv st pc Q :=
  fun p e R s m args below meth c H locs cells slots A ls hC hH hl => lv_ldcw hC.2.1 hC.2.2.1 hC.2.2.2.2.2.1 (tb_good hC.1 hw rfl hC.2.2.2.2.2.2.2.2.1) hd (kk p e R s m args below meth c H locs cells slots A ls hC hH hl)
theorem x_ldc2 {idx : Nat} {v : Int64} (hd : decode Y.2.1 pc = .ok (.ldc2_w idx, 3)) (hw : Cond.constantLong Y.1.cls idx v ∈ lw_tbl) (kk : XJ G d k Y M lv (.long v :: st) (pc + 3) Q) : XJ G d k Y M lv st pc Q :=
  fun p e R s m args below meth c H locs cells slots A ls hC hH hl => lv_ldc2 hC.2.1 hC.2.2.1 hC.2.2.2.2.2.1 (tb_good hC.1 hw rfl hC.2.2.2.2.2.2.2.2.1) hd (kk p e R s m args below meth c H locs cells slots A ls hC hH hl)
theorem x_ifnonnull {x : Nat} {off : Int} {tgt : Nat} (hd : decode Y.2.1 pc = .ok (.ifnonnull off, 3)) (ht : (pc : Int) + off = (tgt : Int)) (kk : XJ G d k Y M lv st tgt Q) : XJ G d k Y M lv (.ref x :: st) pc Q :=
  fun p e R s m args below meth c H locs cells slots A ls hC hH hl => lv_ifnonnull hC.2.1 hC.2.2.1 hd ht (kk p e R s m args below meth c H locs cells slots A ls hC hH hl)
theorem x_ifnonnullN {off : Int} (hd : decode Y.2.1 pc = .ok (.ifnonnull off, 3)) (kk : XJ G d k Y M lv st (pc + 3) Q) : XJ G d k Y M lv (.null :: st) pc Q :=
  fun p e R s m args below meth c H locs cells slots A ls hC hH hl => lv_ifnonnullN hC.2.1 hC.2.2.1 hd (kk p e R s m args below meth c H locs cells slots A ls hC hH hl)
theorem x_ifnull {x : Nat} {off : Int} (hd : decode Y.2.1 pc = .ok (.ifnull off, 3)) (kk : XJ G d k Y M lv st (pc + 3) Q) : XJ G d k Y M lv (.ref x :: st) pc Q :=
  fun p e R s m args below meth c H locs cells slots A ls hC hH hl => lv_ifnull hC.2.1 hC.2.2.1 hd (kk p e R s m args below meth c H locs cells slots A ls hC hH hl)
theorem x_ifnullN {off : Int} {tgt : Nat} (hd : decode Y.2.1 pc = .ok (.ifnull off, 3)) (ht : (pc : Int) + off = (tgt : Int)) (kk : XJ G d k Y M lv st tgt Q) : XJ G d k Y M lv (.null :: st) pc Q :=
  fun p e R s m args below meth c H locs cells slots A ls hC hH hl => lv_ifnullN hC.2.1 hC.2.2.1 hd ht (kk p e R s m args below meth c H locs cells slots A ls hC hH hl)
theorem x_acmp_eq {a b : Nat} {off : Int} {tgt : Nat} (hd : decode Y.2.1 pc = .ok (.if_acmp .eq off, 3)) (ht : (pc : Int) + off = (tgt : Int)) (kt : a = b → XJ G d k Y M lv st tgt Q) (kf : ¬ a = b → XJ G d k Y M lv st (pc + 3) Q) : XJ G d k Y M lv (.ref b :: .ref a :: st) pc Q :=
  fun p e R s m args below meth c H locs cells slots A ls hC hH hl => lv_acmp_eq (rx := some a) (ry := some b) hC.2.1 hC.2.2.1 hd ht (fun z => kt (Option.some.inj z) p e R s m args below meth c H locs cells slots A ls hC hH hl) (fun z => kf (fun y => z (by rw [y])) p e R s m args below meth c H locs cells slots A ls hC hH hl)
theorem x_acmp_ne {a b : Nat} {off : Int} {tgt : Nat} (hd : decode Y.2.1 pc = .ok (.if_acmp .ne off, 3)) (ht : (pc : Int) + off = (tgt : Int)) (kt : ¬ a = b → XJ G d k Y M lv st tgt Q) (kf : a = b → XJ G d k Y M lv st (pc + 3) Q) : XJ G d k Y M lv (.ref b :: .ref a :: st) pc Q :=
  fun p e R s m args below meth c H locs cells slots A ls hC hH hl => lv_acmp_ne (rx := some a) (ry := some b) hC.2.1 hC.2.2.1 hd ht (fun z => kt (fun y => z (by rw [y])) p e R s m args below meth c H locs cells slots A ls hC hH hl) (fun z => kf (Option.some.inj z) p e R s m args below meth c H locs cells slots A ls hC hH hl)
theorem x_tableOut {dflt lo hi : Int} {offs : Array Int} {len tgt : Nat} {x : Int32} (hd : decode Y.2.1 pc = .ok (.tableswitch dflt lo hi offs, len)) (h : x.toInt < lo ∨ hi < x.toInt) (ht : (pc : Int) + dflt = (tgt : Int)) (kk : XJ G d k Y M lv st tgt Q) : XJ G d k Y M lv (.int x :: st) pc Q :=
  fun p e R s m args below meth c H locs cells slots A ls hC hH hl => lv_tableOut hC.2.1 hC.2.2.1 hd h ht (kk p e R s m args below meth c H locs cells slots A ls hC hH hl)
theorem x_tableIn {dflt lo hi off : Int} {offs : Array Int} {len tgt : Nat} {x : Int32} (hd : decode Y.2.1 pc = .ok (.tableswitch dflt lo hi offs, len)) (h1 : ¬ x.toInt < lo) (h2 : ¬ hi < x.toInt) (ho : offs[(x.toInt - lo).toNat]? = some off) (ht : (pc : Int) + off = (tgt : Int)) (kk : XJ G d k Y M lv st tgt Q) : XJ G d k Y M lv (.int x :: st) pc Q :=
  fun p e R s m args below meth c H locs cells slots A ls hC hH hl => lv_tableIn hC.2.1 hC.2.2.1 hd h1 h2 ho ht (kk p e R s m args below meth c H locs cells slots A ls hC hH hl)
end XA
/-- down a loop's count -/
theorem loop_up {P : Nat → Prop} {n : Nat} (hn : P n) (hs : ∀ i, i < n → P (i + 1) → P i) : ∀ i, i ≤ n → P i := by
  intro i hi
  obtain ⟨j, rfl⟩ := Nat.exists_eq_add_of_le hi
  induction j generalizing i with
  | zero => exact hn
  | succ j ih => exact hs i (by omega) (by have := ih (i := i + 1) (by rw [show i + 1 + j = i + (j + 1) by omega]; exact hn) (by rw [show i + 1 + j = i + (j + 1) by omega]; exact hs) (by omega); exact this)
theorem loopT {c : Int32} {n : Nat} (h : c = nI n) : c ≤ nI n := by rw [h]; exact Int32.le_refl _
theorem loopF {c : Int32} {n i : Nat} (h : c = nI n) (hi : i < n) (hn : n < 2 ^ 31) : ¬ c ≤ nI i := by rw [h]; exact Int32.not_le.mpr (nI_lt hi hn)
