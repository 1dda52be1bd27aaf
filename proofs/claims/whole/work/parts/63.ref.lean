/-! rows for rows of references: store, make, copy, class -/
theorem tb316 : (Cond.arrayOver (FieldType.object "java/lang/Object")) ∈ lw_tbl := tb_r (List.mem_of_getElem? (i := 316) (by decide +kernel))
theorem tb1759 : (Cond.castable "DiaryHouse$Person" "java/lang/Object") ∈ lw_tbl := tb_r (List.mem_of_getElem? (i := 1759) (by decide +kernel))
theorem tb1760 : (Cond.castable "DiaryHouse$Line" "java/lang/Object") ∈ lw_tbl := tb_r (List.mem_of_getElem? (i := 1760) (by decide +kernel))
theorem tb1762 : (Cond.castable "DiaryHouse$Stop" "java/lang/Object") ∈ lw_tbl := tb_r (List.mem_of_getElem? (i := 1762) (by decide +kernel))
theorem tb1763 : (Cond.castable "DiaryHouse$Rule" "java/lang/Object") ∈ lw_tbl := tb_r (List.mem_of_getElem? (i := 1763) (by decide +kernel))
theorem tb1764 : (Cond.castable "DiaryHouse$Happening" "java/lang/Object") ∈ lw_tbl := tb_r (List.mem_of_getElem? (i := 1764) (by decide +kernel))
theorem tb1765 : (Cond.castable "DiaryHouse$Mark" "java/lang/Object") ∈ lw_tbl := tb_r (List.mem_of_getElem? (i := 1765) (by decide +kernel))
theorem tb1766 : (Cond.castable "DiaryHouse$Question" "java/lang/Object") ∈ lw_tbl := tb_r (List.mem_of_getElem? (i := 1766) (by decide +kernel))
theorem obj_106 {G : Gam} (hB : BaseOK G) : ∃ (kA : Class) (comp : ClassId), G.2.1.vm.classes[G.2.2.2 106]? = some kA ∧ kA.kind = .array comp (.object "java/lang/Object") ∧ G.2.1.vm.findClass "java/lang/Object" = some comp := by
  obtain ⟨⟨b, h⟩, -, hA⟩ := hB
  obtain ⟨comp, c, k, f1, -, f2, f3, f4⟩ := Cond.arrayOver_spec (h _ tb316)
  have h9 : G.2.1.vm.findClass ("[" ++ (FieldType.object "java/lang/Object").toString) = some (G.2.2.2 106) := (hA 106 (by decide) (by decide)).2.1
  cases h9.symm.trans f4
  exact ⟨k, comp, f2, f3, f1⟩
theorem cast_G {G : Gam} (hB : BaseOK G) {C T : String} (hw : Cond.castable C T ∈ lw_tbl) : ∃ c t, G.2.1.vm.findClass C = some c ∧ G.2.1.vm.findClass T = some t ∧ G.2.1.vm.assignable c t = true := by
  obtain ⟨⟨b, h⟩, -, -⟩ := hB
  exact Cond.castable_spec (h _ hw)
theorem tb_decl {G : Gam} (hB : BaseOK G) {x : MethodName} (hw : Cond.declares x ∈ lw_tbl) {args : Array Value} {s : State} (hW : G.2.1.WarmedH s.vm) : (Cond.declares x).before args s = true := by
  obtain ⟨⟨b, h⟩, -⟩ := hB
  exact va_Nw.use rfl (va_Nw.warmD hW (va_Nw.of rfl (h _ hw)))
theorem tb_over {G : Gam} (hB : BaseOK G) {C : String} (hw : Cond.arrayOver (.object C) ∈ lw_tbl) {args : Array Value} {s : State} (hW : G.2.1.WarmedH s.vm) : (Cond.arrayOver (.object C)).before args s = true := by
  obtain ⟨⟨b, h⟩, -⟩ := hB
  exact va_AO.use (va_AO.moved hW.alike (va_AO.of (h _ hw)))
section REF
variable {G : Gam} {d : Nat} {k : Nat × Nat} {Y : MR} {M : Mem} {lv : Lv} {st : List Value} {pc : Nat} {Q : Option Value → Mem → Prop} {rest : List Value}
theorem x_aastore {n a v ci sz : Nat} {f fv : Nat → Value} {i : Int32} {q : vw_C} (hd : decode Y.2.1 pc = .ok (.aastore, 1)) (hM : M a = some (106, n, f)) (hv : M v = some (ci, sz, fv)) (hq : vwCl[ci]? = some q) (hca : Cond.castable q.1 "java/lang/Object" ∈ lw_tbl) (hin : vp_in i n) (kk : XJ G d k Y (mset M a (106, n, updV f i.toNatClampNeg (.ref v))) lv st (pc + 1) Q) : XJ G d k Y M lv (.ref v :: .int i :: .ref a :: st) pc Q := by
  intro p e R s m args below meth c H locs cells slots A ls hC hH hl
  have hW := hC.2.2.2.2.2.2.2.2.1
  obtain ⟨kA, comp, w1, w2, w3⟩ := obj_106 hC.1
  obtain ⟨c0, t0, f1, f2, f3⟩ := cast_G hC.1 hca
  cases w3.symm.trans f2
  obtain ⟨kA', hkA', heA⟩ := hW.alike.2.2 _ _ w1
  obtain ⟨cell, g1, g2, g3⟩ := cAt_recv (hH.1 v _ hv).2 hq (bs_K hC.1 hW)
  have g4 : G.2.1.vm.findClass q.1 = some cell.cls := by rw [← hW.alike.findClass]; exact g3
  cases g4.symm.trans f1
  obtain ⟨kC, hkC, -⟩ := Vm.findClass_spec g3
  have w3' : s.vm.findClass "java/lang/Object" = some comp := by rw [hW.alike.findClass]; exact w3
  obtain ⟨kO, hkO, -⟩ := Vm.findClass_spec w3'
  have hc1 := cAt_arr (hH.1 a _ hM).2 (by decide)
  refine W.aast hC.2.1 hC.2.2.1 hc1 (fun q h => by cases h) (fun h => by cases h) hkA' (by rw [heA]; exact w2) rfl hkO ⟨fun z => hin (Or.inl z), by rw [arrV_size]; exact Nat.not_le.mp fun z => hin (Or.inr z)⟩ g1 (fun q h => by rw [h] at g2; cases g2) hkC (by rw [hW.alike.assignable]; exact f3) rfl rfl hd fun H1 e1 z oq => ?_
  exact kk p e R s m args below meth c H1 _ cells slots A ls hC (XH_set hH hM z oq (arr_st (by decide) e1)) hl
theorem x_anew {idx N : Nat} {i : Int32} (hd : decode Y.2.1 pc = .ok (.anewarray idx, 3)) (hw : Cond.classLink Y.1.cls idx "java/lang/Object" ∈ lw_tbl) (hn : ¬ i < 0) (hN : i.toNatClampNeg = N) (hb : N ≤ 60000) (hk : 1 ≤ k.1 ∧ N ≤ k.2) (kk : ∀ h : Nat, M h = none → XJ G d (k.1 - 1, k.2 - N) Y (mset M h (106, N, fun _ => .null)) lv (.ref h :: st) (pc + 3) Q) : XJ G d k Y M lv (.int i :: st) pc Q := by
  intro p e R s m args below meth c H locs cells slots A ls hC hH hl
  have hW := hC.2.2.2.2.2.2.2.2.1
  subst hN
  refine W.anew hC.2.1 hC.2.2.1 hC.2.2.2.2.2.1 (tb_good hC.1 hw rfl hW) (tb_over hC.1 tb316 hW) rfl hd rfl hn (by omega) (Nat.le_trans (Nat.add_le_add_left hk.1 _) hH.2.2.2.1) (Nat.le_trans (Nat.add_le_add_left hk.2 _) hH.2.2.2.2) fun cA kA comp f1 f2 f3 f4 => ?_
  have hcA : cA = G.2.2.2 106 := by
    have h9 := (hC.1.2.2 106 (by decide) (by decide)).2.1
    have h8 : s.vm.findClass ("[" ++ (tyA 106).toString) = some (G.2.2.2 106) := by rw [hW.alike.findClass]; exact h9
    exact Option.some.inj (f1.symm.trans h8)
  generalize hH1 : H.push ({ cls := cA, slots := Array.replicate i.toNatClampNeg .null, vm := .none } : Cell) = H1
  have z1 : H1.size = H.size + 1 := by rw [← hH1, Array.size_push]
  have e1 : H1[H.size]? = some (arrV cA i.toNatClampNeg (fun _ => .null)) := by rw [← hH1, Array.getElem?_push_size, ← arrV_new]
  have o1 : ∀ q : Nat, q < H.size → H1[q]? = H[q]? := fun q hq => by rw [← hH1, Array.getElem?_push, if_neg (Nat.ne_of_lt hq)]
  refine kk H.size (fresh_of hH) p e R s m args below meth c H1 locs (cells + 1) (slots + i.toNatClampNeg) A ls hC (XH_new hC.2.2.2.2.2.2.2.2.2.2.2.2.2 hC.2.2.2.2.2.2.2.2.2.2.2.1 hH (by rw [z1]; exact Nat.le_succ _) o1 ?_ hk) hl
  exact Or.inr ⟨(by decide : (100 : Nat) ≤ 106), by rw [e1, hcA]⟩
/-- the class object of rows of objects -/
def ZMir (G : Gam) (mi : Nat) : Prop := va_Mi "[Ljava/lang/Object;" mi G.2.1
theorem x_getC {idx a n mi : Nat} {f : Nat → Value} (hd : decode Y.2.1 pc = .ok (.invokevirtual idx, 3)) (hlk : Cond.methodLink Y.1.cls idx ⟨"java/lang/Object", "getClass", "()Ljava/lang/Class;"⟩ ∈ lw_tbl) (hM : M a = some (106, n, f)) (hZ : ZMir G mi) (hsum : Nat.ble (catS rest) 8 = true) (kk : XJ G (d + 1) k Y M lv (.ref mi :: rest) (pc + 3) Q) : XJ G (d + 1) k Y M lv (.ref a :: rest) pc Q := by
  intro p e R s m args below meth c H locs cells slots A ls hC hH hl
  have hW := hC.2.2.2.2.2.2.2.2.1
  have hfr : R.frames = d + 1 := hC.2.2.2.2.2.2.2.2.2.1
  have hlo : R.locals = 64 * (d + 1) := hC.2.2.2.2.2.2.2.2.2.2.1
  have hs8 := catS_8 hsum
  have hc1 := cAt_arr (hH.1 a _ hM).2 (by decide)
  have h9 := (hC.1.2.2 106 (by decide) (by decide)).2.1
  have h8 : s.vm.findClass "[Ljava/lang/Object;" = some (G.2.2.2 106) := by rw [hW.alike.findClass]; exact h9
  exact va_getC hC.2.1 hC.2.2.1 (by rw [hC.2.2.2.2.1]; exact hl.1.symm) hC.2.2.2.2.2.1 (tb_good hC.1 hlk rfl hW) (tb_decl hC.1 tb1771 hW) (tb_good hC.1 tb1770 rfl hW) (tb_good hC.1 tb294 rfl hW) (tb_good hC.1 tb311 rfl hW) (va_Mi.moved hW.alike hZ) ⟨_, hc1, rfl, h8⟩ (by omega) (by omega) hd (kk p e R s m args below meth c H locs cells slots A ls hC hH hl)
theorem x_ldcM {idx mi : Nat} (hd : decode Y.2.1 pc = .ok (.ldc idx, 2)) (hlk : Cond.classLink Y.1.cls idx "[Ljava/lang/Object;" ∈ lw_tbl) (hZ : ZMir G mi) (kk : XJ G d k Y M lv (.ref mi :: st) (pc + 2) Q) : XJ G d k Y M lv st pc Q := by
  intro p e R s m args below meth c H locs cells slots A ls hC hH hl
  have hW := hC.2.2.2.2.2.2.2.2.1
  exact va_ldcM hC.2.1 hC.2.2.1 hC.2.2.2.2.2.1 (tb_good hC.1 hlk rfl hW) (va_Mi.moved hW.alike hZ) hd (kk p e R s m args below meth c H locs cells slots A ls hC hH hl)
theorem x_copyQ {idx a0 a n0 n1 ci : Nat} {f g : Nat → Value} {q : vw_C} {sp dp n : Int32} (hd : decode Y.2.1 pc = .ok (.invokestatic idx, 3)) (hlk : Cond.methodLink Y.1.cls idx arraycopyName ∈ lw_tbl) (h0 : M a0 = some (106, n0, f)) (h1' : M a = some (106, n1, g)) (hq : vwCl[ci]? = some q) (hca : Cond.castable q.1 "java/lang/Object" ∈ lw_tbl)
    (h1 : ¬ sp < 0) (h2 : ¬ dp < 0) (h3 : ¬ n < 0) (h4 : sp.toNatClampNeg + n.toNatClampNeg ≤ n0) (h5 : dp.toNatClampNeg + n.toNatClampNeg ≤ n1) (hel : ∀ i, i < n.toNatClampNeg → ∃ o sz fv, f (sp.toNatClampNeg + i) = .ref o ∧ M o = some (ci, sz, fv)) (hsum : Nat.ble (catS rest) 8 = true)
    (kk : XJ G (d + 1) k Y (mset M a (106, n1, va_cpy f g sp.toNatClampNeg dp.toNatClampNeg n.toNatClampNeg)) lv rest (pc + 3) Q) : XJ G (d + 1) k Y M lv (.int n :: .int dp :: .ref a :: .int sp :: .ref a0 :: rest) pc Q := by
  intro p e R s m args below meth c H locs cells slots A ls hC hH hl
  have hW := hC.2.2.2.2.2.2.2.2.1
  have hfr : R.frames = d + 1 := hC.2.2.2.2.2.2.2.2.2.1
  have hlo : R.locals = 64 * (d + 1) := hC.2.2.2.2.2.2.2.2.2.2.1
  have nn : ∀ z : Int32, ¬ z < 0 → z.toInt = (z.toNatClampNeg : Int) := by
    intro z hz
    have hz0 : (0 : Int) ≤ z.toInt := by
      have := Int32.not_lt.mp hz
      simpa using Int32.le_iff_toInt_le.mp this
    show z.toInt = ((z.toInt.toNat : Nat) : Int)
    omega
  obtain ⟨kA, comp, w1, w2, w3⟩ := obj_106 hC.1
  obtain ⟨c0, t0, f1, f2, f3⟩ := cast_G hC.1 hca
  cases w3.symm.trans f2
  obtain ⟨kA', hkA', heA⟩ := hW.alike.2.2 _ _ w1
  have w3' : s.vm.findClass "java/lang/Object" = some comp := by rw [hW.alike.findClass]; exact w3
  intro T hT X
  have hc0 : H[a0]? = some (arrV (G.2.2.2 106) n0 f) := cAt_arr (hH.1 a0 _ h0).2 (by decide)
  have hc1 : H[a]? = some (arrV (G.2.2.2 106) n1 g) := cAt_arr (hH.1 a _ h1').2 (by decide)
  have hw : nativeFrameWords "java/lang/System" "arraycopy" 5 ≤ 20 := by decide
  have hs8 := catS_8 hsum
  have hkind : kA'.kind = .array comp (.object "java/lang/Object") := by rw [heA]; exact w2
  obtain ⟨vm', X', step⟩ := X.arraycopy hC.2.1 hC.2.2.2.2.2.1 (tb_good hC.1 hlk rfl hW) (tb_good hC.1 tb323 rfl hW) (tb_good hC.1 tb322 rfl hW) (tb_good hC.1 tb15 rfl hW) (src := a0) (dst := a) (cs := arrV (G.2.2.2 106) n0 f) (cd := arrV (G.2.2.2 106) n1 g) (srcPos := sp) (destPos := dp) (n := n) (by rw [hT]; exact hc0) (by rw [hT]; exact hc1)
    (fun _ h => by cases h) (fun _ h => by cases h) (fun h => by cases h) (fun h => by cases h) hkA' hkA' hkind hkind rfl h1 h2 h3
    (by rw [nn sp h1, nn n h3, arrV_size]; omega)
    (by rw [nn dp h2, nn n h3, arrV_size]; omega)
    (fun vm₁ hal i hi => by
      obtain ⟨o, sz, fv, ho, hMo⟩ := hel i hi
      have e : (arrV (G.2.2.2 106) n0 f).slots.getD (sp.toNatClampNeg + i) .null = .ref o := by
        rw [Array.getD_eq_getD_getElem?, arrV_read _ _ (by omega), ho]
        rfl
      obtain ⟨cell, g1, g2, g3⟩ := cAt_recv (hH.1 o _ hMo).2 hq (bs_K hC.1 hW)
      have g4 : G.2.1.vm.findClass q.1 = some cell.cls := by rw [← hW.alike.findClass]; exact g3
      cases g4.symm.trans f1
      obtain ⟨kC, hkC, -⟩ := Vm.findClass_spec g3
      obtain ⟨kE, hkE, -⟩ := Vm.findClass_spec w3'
      obtain ⟨kC', hkC', -⟩ := hal.2.2 _ _ hkC
      obtain ⟨kE', hkE', -⟩ := hal.2.2 _ _ hkE
      rw [e]
      refine ⟨rfl, cell, (show T.heap[o]? = some cell by rw [hT]; exact g1), (fun q h => by rw [h] at g2; cases g2), ⟨kC', hkC'⟩, ?_, ?_⟩
      · exact ⟨kE', hkE'⟩
      · show vm₁.assignable _ _ = true
        rw [hal.assignable, hW.alike.assignable]
        exact f3)
    (g := F0 m pc ls (.int n :: .int dp :: .ref a :: .int sp :: .ref a0 :: rest)) rfl (by rw [hC.2.2.2.2.1]; exact hl.1) (rest := rest) rfl (by rw [hC.2.2.1]; exact hd) (by omega) (by show 2 * 0 + _ + _ ≤ _; omega)
  have e1 : copied (arrV (G.2.2.2 106) n0 f) (arrV (G.2.2.2 106) n1 g) sp dp n = arrV (G.2.2.2 106) n1 (va_cpy f g sp.toNatClampNeg dp.toNatClampNeg n.toNatClampNeg) := va_copied (fun z => z) _ _ f g h4
  rw [e1] at X' step
  have hlt : a < H.size := (Array.getElem?_eq_some_iff.mp hc1).1
  have hheap : ((T.setVm vm').setCell a (arrV (G.2.2.2 106) n1 (va_cpy f g sp.toNatClampNeg dp.toNatClampNeg n.toNatClampNeg))).heap = H.setIfInBounds a (arrV (G.2.2.2 106) n1 (va_cpy f g sp.toNatClampNeg dp.toNatClampNeg n.toNatClampNeg)) := by rw [← hT]; rfl
  have oq : ∀ q : Nat, q ≠ a → (H.setIfInBounds a (arrV (G.2.2.2 106) n1 (va_cpy f g sp.toNatClampNeg dp.toNatClampNeg n.toNatClampNeg)))[q]? = H[q]? := fun q hq => by simp [Array.getElem?_setIfInBounds, Ne.symm hq]
  obtain ⟨t, a1, b1⟩ := kk p e R s m args below meth c _ _ cells slots A ls hC (XH_sets hH h1' (by simp) oq (Or.inr ⟨(by decide : (100 : Nat) ≤ 106), by simp [Array.getElem?_setIfInBounds, hlt]⟩) (fun l hl2 => by
      obtain ⟨z, -, hz⟩ := List.mem_map.mp hl2
      rw [← hz])) hl _ hheap X'
  exact ⟨t, step t a1, b1⟩
end REF
