/-! rows for System.arraycopy -/
theorem tb15 : (Cond.initialized "java/lang/System") ∈ lw_tbl := tb_r (List.mem_of_getElem? (i := 15) (by decide +kernel))
theorem tb322 : (Cond.static ({ cls := "java/lang/System", name := "arraycopy", desc := "(Ljava/lang/Object;ILjava/lang/Object;II)V" } : MethodName)) ∈ lw_tbl := tb_r (List.mem_of_getElem? (i := 322) (by decide +kernel))
theorem tb323 : (Cond.native ({ cls := "java/lang/System", name := "arraycopy", desc := "(Ljava/lang/Object;ILjava/lang/Object;II)V" } : MethodName)) ∈ lw_tbl := tb_r (List.mem_of_getElem? (i := 323) (by decide +kernel))
theorem tb294 : (Cond.instanceMethod ({ cls := "java/lang/Object", name := "getClass", desc := "()Ljava/lang/Class;" } : MethodName)) ∈ lw_tbl := tb_r (List.mem_of_getElem? (i := 294) (by decide +kernel))
theorem tb311 : (Cond.native ({ cls := "java/lang/Object", name := "getClass", desc := "()Ljava/lang/Class;" } : MethodName)) ∈ lw_tbl := tb_r (List.mem_of_getElem? (i := 311) (by decide +kernel))
theorem tb1769 : (Cond.sameMethod "[Ljava/lang/Object;" "java/lang/Object" "getClass" "()Ljava/lang/Class;") ∈ lw_tbl := tb_r (List.mem_of_getElem? (i := 1769) (by decide +kernel))
theorem tb1770 : (Cond.selects "[Ljava/lang/Object;" ({ cls := "java/lang/Object", name := "getClass", desc := "()Ljava/lang/Class;" } : MethodName) ({ cls := "java/lang/Object", name := "getClass", desc := "()Ljava/lang/Class;" } : MethodName)) ∈ lw_tbl := tb_r (List.mem_of_getElem? (i := 1770) (by decide +kernel))
theorem tb1771 : (Cond.declares ({ cls := "java/lang/Object", name := "getClass", desc := "()Ljava/lang/Class;" } : MethodName)) ∈ lw_tbl := tb_r (List.mem_of_getElem? (i := 1771) (by decide +kernel))
theorem tb630 : (Cond.sameMethod "[I" "java/lang/Object" "clone" "()Ljava/lang/Object;") ∈ lw_tbl := tb_r (List.mem_of_getElem? (i := 630) (by decide +kernel))
theorem tb631 : (Cond.native ({ cls := "java/lang/Object", name := "clone", desc := "()Ljava/lang/Object;" } : MethodName)) ∈ lw_tbl := tb_r (List.mem_of_getElem? (i := 631) (by decide +kernel))
theorem tb632 : (Cond.instanceMethod ({ cls := "java/lang/Object", name := "clone", desc := "()Ljava/lang/Object;" } : MethodName)) ∈ lw_tbl := tb_r (List.mem_of_getElem? (i := 632) (by decide +kernel))
theorem tb633 : (Cond.selects "[I" ({ cls := "[I", name := "clone", desc := "()Ljava/lang/Object;" } : MethodName) ({ cls := "java/lang/Object", name := "clone", desc := "()Ljava/lang/Object;" } : MethodName)) ∈ lw_tbl := tb_r (List.mem_of_getElem? (i := 633) (by decide +kernel))
theorem tb634 : (Cond.castable "[I" "java/lang/Cloneable") ∈ lw_tbl := tb_r (List.mem_of_getElem? (i := 634) (by decide +kernel))
section CPY
variable {G : Gam} {d : Nat} {k : Nat × Nat} {Y : MR} {M : Mem} {lv : Lv} {pc : Nat} {Q : Option Value → Mem → Prop} {rest : List Value}
theorem XH_sets {R : Room} {s : State} {A : Nat → Prop} {H H1 : Heap} {locs L : List Loc} {cells slots a : Nat} {c0 c : Cel} (hH : XH G k M R s A H locs cells slots) (hM : M a = some c0) (hz : H1.size = H.size) (hq : ∀ q, q ≠ a → H1[q]? = H[q]?) (hc : cAt G.2.2.1 G.2.2.2 a c H1) (hL : ∀ l ∈ L, l.base = a) : XH G k (mset M a c) R s A H1 (locs ++ L) cells slots := by
  have h0 := XH_set (j := 0) hH hM hz hq hc
  refine ⟨h0.1, h0.2.1, ⟨h0.2.2.1.1, h0.2.2.1.2.1, fun q hq2 => ?_⟩, h0.2.2.2⟩
  rcases List.mem_append.mp hq2 with h | h
  · exact hH.2.2.1.2.2 q h
  · have := hL q h
    rw [this]
    exact hH.2.1 a c0 hM
theorem x_copyI {idx a0 a n0 n1 : Nat} {f g : Nat → Int32} {sp dp n : Int32} (hd : decode Y.2.1 pc = .ok (.invokestatic idx, 3)) (hlk : Cond.methodLink Y.1.cls idx arraycopyName ∈ lw_tbl) (hnat : Cond.native arraycopyName ∈ lw_tbl) (hstat : Cond.static arraycopyName ∈ lw_tbl) (hini : Cond.initialized "java/lang/System" ∈ lw_tbl) (h0 : M a0 = some (100, n0, fun i => .int (f i))) (h1' : M a = some (100, n1, fun i => .int (g i)))
    (h1 : ¬ sp < 0) (h2 : ¬ dp < 0) (h3 : ¬ n < 0) (h4 : sp.toNatClampNeg + n.toNatClampNeg ≤ n0) (h5 : dp.toNatClampNeg + n.toNatClampNeg ≤ n1) (hsum : Nat.ble (catS rest) 8 = true)
    (kk : XJ G (d + 1) k Y (mset M a (100, n1, fun i => .int (va_cpy f g sp.toNatClampNeg dp.toNatClampNeg n.toNatClampNeg i))) lv rest (pc + 3) Q) : XJ G (d + 1) k Y M lv (.int n :: .int dp :: .ref a :: .int sp :: .ref a0 :: rest) pc Q := by
  intro p e R s m args below meth c H locs cells slots A ls hC hH hl
  have hW := hC.2.2.2.2.2.2.2.2.1
  have hfr : R.frames = d + 1 := hC.2.2.2.2.2.2.2.2.2.1
  have hlo : R.locals = 64 * (d + 1) := hC.2.2.2.2.2.2.2.2.2.2.1
  have nn : ∀ z : Int32, ¬ z < 0 → z.toInt = (z.toNatClampNeg : Int) := by
    intro z hz
    have hz0 : (0 : Int) ≤ z.toInt := by
      have := Int32.not_lt.mp hz
      simpa using Int32.le_iff_toInt_le.mp this
    show z.toInt = ((z.toInt.toNat : Nat) : Int)
    omega
  intro T hT X
  have hc0 : H[a0]? = some (arrV (G.2.2.2 100) n0 (fun i => .int (f i))) := cAt_arr (hH.1 a0 _ h0).2 (by decide)
  have hc1 : H[a]? = some (arrV (G.2.2.2 100) n1 (fun i => .int (g i))) := cAt_arr (hH.1 a _ h1').2 (by decide)
  obtain ⟨-, k0, hk0, cm0, hkk0⟩ := (arrK_w hC.1 hW (k := 100) (by decide) (by decide)) n0 (fun i => .int (f i))
  obtain ⟨-, k1, hk1, cm1, hkk1⟩ := (arrK_w hC.1 hW (k := 100) (by decide) (by decide)) n1 (fun i => .int (g i))
  have hw : nativeFrameWords "java/lang/System" "arraycopy" 5 ≤ 20 := by decide
  have hs8 := catS_8 hsum
  obtain ⟨vm', X', step⟩ := X.arraycopy hC.2.1 hC.2.2.2.2.2.1 (tb_good hC.1 hlk rfl hW) (tb_good hC.1 hnat rfl hW) (tb_good hC.1 hstat rfl hW) (tb_good hC.1 hini rfl hW) (src := a0) (dst := a) (cs := arrV (G.2.2.2 100) n0 (fun i => .int (f i))) (cd := arrV (G.2.2.2 100) n1 (fun i => .int (g i))) (srcPos := sp) (destPos := dp) (n := n) (by rw [hT]; exact hc0) (by rw [hT]; exact hc1)
    (fun _ h => by cases h) (fun _ h => by cases h) (fun h => by cases h) (fun h => by cases h) hk0 hk1 hkk0 hkk1 rfl h1 h2 h3
    (by rw [nn sp h1, nn n h3, arrV_size]; omega)
    (by rw [nn dp h2, nn n h3, arrV_size]; omega)
    (fun vm₁ _ i hi => by
      have e : (arrV (G.2.2.2 100) n0 (fun i => .int (f i))).slots.getD (sp.toNatClampNeg + i) .null = .int (f (sp.toNatClampNeg + i)) := by
        rw [Array.getD_eq_getD_getElem?, arrV_read _ _ (by omega)]
        rfl
      refine ⟨?_, ?_⟩
      · rw [e]; rfl
      · rw [e]; exact trivial)
    (g := F0 m pc ls (.int n :: .int dp :: .ref a :: .int sp :: .ref a0 :: rest)) rfl (by rw [hC.2.2.2.2.1]; exact hl.1) (rest := rest) rfl (by rw [hC.2.2.1]; exact hd) (by omega) (by show 2 * 0 + _ + _ ≤ _; omega)
  have e1 : copied (arrV (G.2.2.2 100) n0 (fun i => .int (f i))) (arrV (G.2.2.2 100) n1 (fun i => .int (g i))) sp dp n = arrV (G.2.2.2 100) n1 (fun i => .int (va_cpy f g sp.toNatClampNeg dp.toNatClampNeg n.toNatClampNeg i)) := va_copied (fun z => .int z) _ _ f g h4
  rw [e1] at X' step
  have hlt : a < H.size := (Array.getElem?_eq_some_iff.mp hc1).1
  have hheap : ((T.setVm vm').setCell a (arrV (G.2.2.2 100) n1 (fun i => .int (va_cpy f g sp.toNatClampNeg dp.toNatClampNeg n.toNatClampNeg i)))).heap = H.setIfInBounds a (arrV (G.2.2.2 100) n1 (fun i => .int (va_cpy f g sp.toNatClampNeg dp.toNatClampNeg n.toNatClampNeg i))) := by rw [← hT]; rfl
  have oq : ∀ q : Nat, q ≠ a → (H.setIfInBounds a (arrV (G.2.2.2 100) n1 (fun i => .int (va_cpy f g sp.toNatClampNeg dp.toNatClampNeg n.toNatClampNeg i))))[q]? = H[q]? := fun q hq => by simp [Array.getElem?_setIfInBounds, Ne.symm hq]
  obtain ⟨t, a1, b1⟩ := kk p e R s m args below meth c _ _ cells slots A ls hC (XH_sets hH h1' (by simp) oq (Or.inr ⟨Nat.le_refl 100, by simp [Array.getElem?_setIfInBounds, hlt]⟩) (fun l hl2 => by
      obtain ⟨z, -, hz⟩ := List.mem_map.mp hl2
      rw [← hz])) hl _ hheap X'
  exact ⟨t, step t a1, b1⟩
end CPY
