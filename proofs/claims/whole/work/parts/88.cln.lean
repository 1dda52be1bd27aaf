/-! int[].clone(); Arrays.copyOf of ints; the codes read -/
theorem tb89 : (Cond.arrayClass FieldType.int) ∈ lw_tbl := tb_r (List.mem_of_getElem? (i := 89) (by decide +kernel))
section CLN
variable {G : Gam} {d : Nat} {k : Nat × Nat} {Y : MR} {M : Mem} {lv : Lv} {st : List Value} {pc : Nat} {Q : Option Value → Mem → Prop} {rest : List Value}
theorem find_100 {G : Gam} (hB : BaseOK G) {s : State} (hW : G.2.1.WarmedH s.vm) : s.vm.findClass "[I" = some (G.2.2.2 100) := by
  rw [hW.alike.findClass]
  exact (hB.2.2 100 (by decide) (by decide)).2.1
theorem x_castI {idx a n : Nat} {f : Nat → Value} (hd : decode Y.2.1 pc = .ok (.checkcast idx, 3)) (hcl : Cond.classLink Y.1.cls idx "[I" ∈ lw_tbl) (hM : M a = some (100, n, f)) (kk : XJ G d k Y M lv (.ref a :: st) (pc + 3) Q) : XJ G d k Y M lv (.ref a :: st) pc Q := by
  intro p e R s m args below meth c H locs cells slots A ls hC hH hl
  have hW := hC.2.2.2.2.2.2.2.2.1
  have hc1 := cAt_arr (hH.1 a _ hM).2 (by decide)
  exact va_castE hC.2.1 hC.2.2.1 hC.2.2.2.2.2.1 (tb_good hC.1 hcl rfl hW) ⟨_, hc1, rfl, find_100 hC.1 hW⟩ hd (kk p e R s m args below meth c H locs cells slots A ls hC hH hl)
theorem x_cloneI {idx a n : Nat} {f : Nat → Int32} (hd : decode Y.2.1 pc = .ok (.invokevirtual idx, 3)) (hlk : Cond.methodLink Y.1.cls idx ⟨"[I", "clone", "()Ljava/lang/Object;"⟩ ∈ lw_tbl) (hM : M a = some (100, n, fun i => .int (f i))) (hk : 1 ≤ k.1 ∧ n ≤ k.2) (hsum : Nat.ble (catS rest) 8 = true) (kk : ∀ h : Nat, M h = none → XJ G (d + 1) (k.1 - 1, k.2 - n) Y (mset M h (100, n, fun i => .int (f i))) lv (.ref h :: rest) (pc + 3) Q) : XJ G (d + 1) k Y M lv (.ref a :: rest) pc Q := by
  intro p e R s m args below meth c H locs cells slots A ls hC hH hl
  have hW := hC.2.2.2.2.2.2.2.2.1
  have hfr : R.frames = d + 1 := hC.2.2.2.2.2.2.2.2.2.1
  have hlo : R.locals = 64 * (d + 1) := hC.2.2.2.2.2.2.2.2.2.2.1
  have hs8 := catS_8 hsum
  have hnm := find_100 hC.1 hW
  intro T hT X
  have hc0 : H[a]? = some (arrV (G.2.2.2 100) n (fun i => .int (f i))) := cAt_arr (hH.1 a _ hM).2 (by decide)
  obtain ⟨-, k0, hk0, cm0, hkk0⟩ := (arrK_w hC.1 hW (k := 100) (by decide) (by decide)) n (fun i => .int (f i))
  obtain ⟨-, kA, hkA, comp, hkind⟩ := State.isArrayOf_alike X.warmed.alike ((arrK_w hC.1 hW (k := 100) (by decide) (by decide)) n (fun i => .int (f i)))
  obtain ⟨c0, t0, g1, g2, g3⟩ := cast_G hC.1 tb634
  have f1 : s.vm.findClass "[I" = some c0 := by rw [hW.alike.findClass]; exact g1
  have f2 : s.vm.findClass "java/lang/Cloneable" = some t0 := by rw [hW.alike.findClass]; exact g2
  have f3 : s.vm.assignable c0 t0 = true := by rw [hW.alike.assignable]; exact g3
  cases hnm.symm.trans f1
  have hsz : (arrV (G.2.2.2 100) n (fun i => Value.int (f i))).slots.size = n := arrV_size _ _ _
  obtain ⟨vm', X', step⟩ := X.cloneArray hC.2.1 hC.2.2.2.2.2.1 (tb_good hC.1 hlk rfl hW) (tb_good hC.1 tb630 rfl hW) (tb_good hC.1 tb631 rfl hW) (tb_good hC.1 tb632 rfl hW) (tb_good hC.1 tb633 rfl hW) (a := a) (cell := arrV (G.2.2.2 100) n (fun i => .int (f i))) (by rw [hT]; exact hc0) (fun _ h => by cases h) (fun h => by cases h) hnm f2 f3
    (fun i v hv => by
      have hk' : T.vm.classes[G.2.2.2 100]? = some kA := hkA
      have hk'' : (arrV (G.2.2.2 100) n (fun i => Value.int (f i))).cls = G.2.2.2 100 := rfl
      rw [hk'']
      have hfit : fits (tyA 100) v = true := va_fit (fun i _ => rfl) i v hv
      simpa [State.fitsSlot, State.slotType?, hk', hkind] using hfit)
    (g := F0 m pc ls (.ref a :: rest)) rfl (by rw [hC.2.2.2.2.1]; exact hl.1) rfl (by rw [hC.2.2.1]; exact hd) (by omega) (by show 2 * 0 + _ + 14 ≤ _; omega) (Nat.le_trans (Nat.add_le_add_left hk.1 _) hH.2.2.2.1) (by rw [hsz]; exact Nat.le_trans (Nat.add_le_add_left hk.2 _) hH.2.2.2.2) (hloader := Vm.clonesLoader_of_array hk0 hkk0)
  have hcellE : ({ cls := (arrV (G.2.2.2 100) n (fun i => Value.int (f i))).cls, slots := (arrV (G.2.2.2 100) n (fun i => Value.int (f i))).slots } : Cell) = arrV (G.2.2.2 100) n (fun i => .int (f i)) := rfl
  rw [hcellE, hsz] at X'
  have e1 : (H.push (arrV (G.2.2.2 100) n (fun i => .int (f i))))[H.size]? = some (arrV (G.2.2.2 100) n (fun i => .int (f i))) := by rw [Array.getElem?_push_size]
  have o1 : ∀ q : Nat, q < H.size → (H.push (arrV (G.2.2.2 100) n (fun i => .int (f i))))[q]? = H[q]? := fun q hq => by rw [Array.getElem?_push, if_neg (Nat.ne_of_lt hq)]
  obtain ⟨t, b1, b2⟩ := kk H.size (fresh_of hH) p e R s m args below meth c (H.push (arrV (G.2.2.2 100) n (fun i => .int (f i)))) locs (cells + 1) (slots + n) A ls hC (XH_new hC.2.2.2.2.2.2.2.2.2.2.2.2.2 hC.2.2.2.2.2.2.2.2.2.2.2.1 hH (by rw [Array.size_push]; exact Nat.le_succ _) o1 (Or.inr ⟨Nat.le_refl 100, e1⟩) hk) hl ((T.setVm vm').pushCell (arrV (G.2.2.2 100) n (fun i => .int (f i)))) (by rw [← hT]; rfl) X'
  refine ⟨t, step t ?_, b2⟩
  rw [hcellE, hT]
  exact b1
theorem c_J7_copyOfI {a n0 n : Nat} {f : Nat → Int32} (h0 : M a = some (100, n0, fun i => .int (f i))) (hle : n ≤ n0) (h1 : n0 ≤ 400) (hq : ∀ (h : Nat) (g : Nat → Int32), M h = none → (∀ i, i < n → g i = f i) → Q (some (.ref h)) (mset M h (100, n, fun i => .int (g i)))) : CT G (d + 1) (1, 400) MJ7_copyOf_59c91 [.ref a, .int (nI n)] M Q := by
  have hcl : (nI n).toNatClampNeg = n := nI_clamp (by omega)
  refine CT.of rfl (Nat.le_of_ble_eq_true rfl) ?_
  by_cases e : n = n0
  · subst e
    refine x_iload_n dJ7_copyOf_59c91_0 rfl rfl ?_
    refine x_aload_n dJ7_copyOf_59c91_1 rfl rfl ?_
    refine x_alen dJ7_copyOf_59c91_2 (by decide) (by decide) h0 ?_
    refine x_icmp_ne (tgt := 14) dJ7_copyOf_59c91_3 (by decide) (fun z => absurd rfl z) (fun _ => ?_)
    refine x_aload_n dJ7_copyOf_59c91_6 rfl rfl ?_
    refine x_cloneI dJ7_copyOf_59c91_7 tb629 h0 ⟨by decide, by omega⟩ rfl (fun h hn => ?_)
    refine x_castI dJ7_copyOf_59c91_10 tb635 mset_eq ?_
    exact x_areturn dJ7_copyOf_59c91_13 rfl (Or.inr ⟨_, rfl⟩) (Or.inr ⟨_, rfl⟩) (hq h _ hn (fun _ _ => rfl))
  · refine x_iload_n dJ7_copyOf_59c91_0 rfl rfl ?_
    refine x_aload_n dJ7_copyOf_59c91_1 rfl rfl ?_
    refine x_alen dJ7_copyOf_59c91_2 (by decide) (by decide) h0 ?_
    refine x_icmp_ne (tgt := 14) dJ7_copyOf_59c91_3 (by decide) (fun _ => ?_) (fun z => absurd z (fun z => e ((nI_eq (by omega) (by omega)).mp z)))
    refine x_iload_n dJ7_copyOf_59c91_14 rfl rfl ?_
    refine x_newa (ci := 100) (N := n) dJ7_copyOf_59c91_15 rfl (by decide) (by decide) tb89 (nI_pos (by omega)) hcl (by omega) ⟨by decide, by omega⟩ (fun h hn => ?_)
    refine x_astore_n dJ7_copyOf_59c91_17 rfl (by decide) ?_
    refine x_aload_n dJ7_copyOf_59c91_18 rfl rfl ?_
    refine x_iconst (v := 0) dJ7_copyOf_59c91_19 (by decide) ?_
    refine x_aload_n dJ7_copyOf_59c91_20 rfl rfl ?_
    refine x_iconst (v := 0) dJ7_copyOf_59c91_21 (by decide) ?_
    refine x_aload_n dJ7_copyOf_59c91_22 rfl rfl ?_
    have ha : a ≠ h := fun z => by rw [z, hn] at h0; cases h0
    have h0' : mset M h (100, n, fun _ => defaultValue (tyA 100)) a = some (100, n0, fun i => .int (f i)) := by rw [mset_ne ha]; exact h0
    refine x_alen dJ7_copyOf_59c91_23 (by decide) (by decide) h0' ?_
    refine x_iload_n dJ7_copyOf_59c91_24 rfl rfl ?_
    refine x_cS2 dJ7_copyOf_59c91_25 ls_J7_304 rfl  (c_J9_min_7cf53 ?_)
    rw [if_pos (nI_lt (show n < n0 by omega) (by omega))]
    refine x_copyI (g := fun _ => 0) dJ7_copyOf_59c91_28 tb321 tb323 tb322 tb15 h0' mset_eq (by decide) (by decide) (nI_pos (by omega)) (by show 0 + _ ≤ _; rw [hcl]; omega) (by show 0 + _ ≤ _; rw [hcl]; omega) rfl ?_
    rw [mset_mset, hcl]
    refine x_aload_n dJ7_copyOf_59c91_31 rfl rfl ?_
    exact x_areturn dJ7_copyOf_59c91_32 rfl (Or.inr ⟨_, rfl⟩) (Or.inr ⟨_, rfl⟩) (hq h _ hn (fun i hi => by
show va_cpy f _ 0 0 n i = f i
unfold va_cpy
rw [if_pos (by omega), show 0 + (i - 0) = i by omega]))
end CLN
section CDR
variable {G : Gam} {d : Nat} {τ : Nat → Nat} {κ : MS} {Md : Mem} {M : Mem} {Q : Option Value → Mem → Prop} {f : Nat → Int32}
theorem c_X9_codesRead {aI : Int32} {cs : List Int32} (hi : adOK τ) (hc : Cds f cs) (hl : cs.length ≤ 160) (hq : ∀ h, cm τ (rS κ aI (nI cs.length) f) Md h = none → Q (some (.ref h)) (mset (cm τ (rS κ aI (nI cs.length) f) Md) h (100, cs.length, fun j => .int (cs.getD j 0)))) : CT G (d + 2) (1, 400) MX9_codesRead [.ref (τ 8)] (cm τ (rS κ aI (nI cs.length) f) Md) Q := by
  refine CT.of rfl (Nat.le_of_ble_eq_true rfl) ?_
  refine x_aload_n dX9_codesRead_0 rfl rfl ?_
  refine x_getf dX9_codesRead_1 lf_X9_15 (kc hi kf_8) kv_8_3 ?_
  refine x_aload_n dX9_codesRead_4 rfl rfl ?_
  refine x_getf dX9_codesRead_5 lf_X9_23 (kc hi kf_8) kv_8_4 ?_
  rw [rS_m]
  refine x_if_ge (tgt := 15) dX9_codesRead_8 (by decide) (fun _ => ?_) (fun z => absurd (nI_pos' (by omega)) z)
  refine x_aload_n dX9_codesRead_15 rfl rfl ?_
  refine x_getf dX9_codesRead_16 lf_X9_23 (kc hi kf_8) kv_8_4 ?_
  rw [rS_m]
  refine x_rS2 dX9_codesRead_19 ls_X9_26 rfl ⟨Nat.le_refl _, Nat.le_refl _⟩ (c_J7_copyOfI (n0 := 160) (f := f) (kc hi kf_18) hl (by decide) ?_)
  intro h g hn hg
  refine x_mext (M' := mset (cm τ (rS κ aI (nI cs.length) f) Md) h (100, cs.length, fun j => .int (cs.getD j 0))) (fun b c' hb => ?_) ?_
  · by_cases e : b = h
    · rw [e, mset_eq] at hb
      cases hb
      rw [e]
      exact ⟨_, mset_eq, fun j hj => congrArg Value.int ((hg j hj).trans (hc j hj))⟩
    · rw [mset_ne e] at hb
      exact ⟨c'.2.2, by rw [mset_ne e]; exact hb, fun _ _ => rfl⟩
  exact x_areturn dX9_codesRead_22 rfl (Or.inr ⟨_, rfl⟩) (Or.inr ⟨_, rfl⟩) (hq h hn)
end CDR
