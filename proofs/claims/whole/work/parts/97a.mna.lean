/-! rows of rows are made -/
theorem tb141 : (Cond.arrayOver (FieldType.array FieldType.int)) ∈ lw_tbl := tb_r (List.mem_of_getElem? (i := 141) (by decide +kernel))
theorem tb_ao {G : Gam} (hB : BaseOK G) {ty : FieldType} (hw : Cond.arrayOver ty ∈ lw_tbl) {args : Array Value} {s : State} (hW : G.2.1.WarmedH s.vm) : (Cond.arrayOver ty).before args s = true := by
  obtain ⟨⟨b, h⟩, -⟩ := hB
  have h2 : (Cond.arrayOver ty).before #[.ref b] (G.2.1.setVm s.vm) = true := by rw [Cond.arrayOver_setVmC hW.alike]; exact h _ hw
  exact h2
theorem outC_r (c : ClassId) (N h0 : Nat) : ∀ i, (Jvm.Free.Multi.outerC c N h0 i).monitor = {} ∧ (Jvm.Free.Multi.outerC c N h0 i).hash = none
  | 0 => ⟨rfl, rfl⟩
  | i + 1 => by
    obtain ⟨a, b⟩ := outC_r c N h0 i
    exact ⟨a, b⟩
/-- a row of n rows at h, the rows behind it -/
def mrow (M : Mem) (h n k0 : Nat) : Mem := fun a => if a = h then some (105, n, fun j => .ref (h + 1 + j)) else if h < a ∧ a ≤ h + n then some (100, k0, fun _ => .int 0) else M a
section MNA
variable {G : Gam} {d : Nat} {k : Nat × Nat} {Y : MR} {M : Mem} {lv : Lv} {st : List Value} {pc : Nat} {Q : Option Value → Mem → Prop}
theorem x_mna {idx n k0 : Nat} {i1 i2 : Int32} (hd : decode Y.2.1 pc = .ok (.multianewarray idx 2, 4)) (hcl : Cond.classLink Y.1.cls idx "[[I" ∈ lw_tbl) (h1 : ¬ i1 < 0) (h2 : ¬ i2 < 0) (e1 : i1.toNatClampNeg = n) (e2 : i2.toNatClampNeg = k0) (b1 : n ≤ 1000) (b2 : k0 ≤ 60000) (hk : 1 + n ≤ k.1 ∧ n + n * k0 ≤ k.2)
    (kk : ∀ h : Nat, (∀ j, j ≤ n → M (h + j) = none) → XJ G d (k.1 - (1 + n), k.2 - (n + n * k0)) Y (mrow M h n k0) lv (.ref h :: st) (pc + 4) Q) : XJ G d k Y M lv (.int i2 :: .int i1 :: st) pc Q := by
  intro p e R s m args below meth c H locs cells slots A ls hC hH hl
  have hW := hC.2.2.2.2.2.2.2.2.1
  intro T hT X
  subst hT
  have hcomp100 := find_100 hC.1 hW
  have hcomp105 : s.vm.findClass "[[I" = some (G.2.2.2 105) := by
    rw [hW.alike.findClass]
    exact (hC.1.2.2 105 (by decide) (by decide)).2.1
  obtain ⟨vm₁, cA, comp, -, f1, f2, X', hstep⟩ := X.multianewarray2 hC.2.1 (own := Y.1.cls) (index := idx) (ty := .int) hC.2.2.2.2.2.1 (tb_good hC.1 hcl rfl hW) (tb_ao hC.1 tb141 hW) (tb_good hC.1 tb89 rfl hW) (g := F0 m pc ls (.int i2 :: .int i1 :: st)) rfl (by rw [hC.2.2.1]; exact hd) (n := i1) (k := i2) (rest := st) rfl h1 h2 (by rw [e1]; omega) (by rw [e2]; show k0 * 4 ≤ _; omega) (by rw [e2]; omega) rfl rfl (by rw [e1]; exact Nat.le_trans (Nat.add_le_add_left hk.1 _) hH.2.2.2.1) (by rw [e1, e2]; exact Nat.le_trans (Nat.add_le_add_left hk.2 _) hH.2.2.2.2)
  rw [e1, e2] at X' hstep
  have hcA : cA = G.2.2.2 105 := Option.some.inj (f1.symm.trans hcomp105)
  have hco : comp = G.2.2.2 100 := Option.some.inj (f2.symm.trans hcomp100)
  subst hcA
  subst hco
  have hdv : defaultValue (.int : FieldType) = .int 0 := rfl
  rw [hdv] at X' hstep
  obtain ⟨g1, g2, -, -⟩ := Jvm.Free.Multi.fill_facts (T.setVm vm₁) (G.2.2.2 105) (G.2.2.2 100) n k0 (.int 0) n
  have g3 := fun j hj => Jvm.Free.Multi.fill_inner (T.setVm vm₁) (G.2.2.2 105) (G.2.2.2 100) n k0 (.int 0) n j hj
  have g4 := fun (a : Nat) (ha : a < T.heap.size) => Jvm.Free.Multi.fill_old (T.setVm vm₁) (G.2.2.2 105) (G.2.2.2 100) n k0 (.int 0) (a := a) ha n
  generalize hF : Jvm.Free.Multi.fill (T.setVm vm₁) (G.2.2.2 105) (G.2.2.2 100) n k0 (.int 0) n = F at X' hstep g1 g2 g3 g4
  have hsz : (T.setVm vm₁).heap.size = T.heap.size := rfl
  rw [hsz] at g1 g2 g3
  have hout : Jvm.Free.Multi.outerC (G.2.2.2 105) n T.heap.size n = arrV (G.2.2.2 105) n (fun j => .ref (T.heap.size + 1 + j)) := by
    obtain ⟨o1, o2, o3⟩ := Jvm.Free.Multi.outerC_facts (G.2.2.2 105) n T.heap.size n
    have o4 := fun j hj => Jvm.Free.Multi.outerC_slot (G.2.2.2 105) n T.heap.size n j hj
    have hs : (Jvm.Free.Multi.outerC (G.2.2.2 105) n T.heap.size n).slots = (arrV (G.2.2.2 105) n (fun j => .ref (T.heap.size + 1 + j))).slots := by
      refine Array.ext_getElem? (fun j => ?_)
      rcases Nat.lt_or_ge j n with hj | hj
      · rw [o4 j hj, if_pos hj, arrV_read _ _ hj]
      · rw [Array.getElem?_eq_none (by rw [o3]; exact hj), Array.getElem?_eq_none (by rw [arrV_size]; exact hj)]
    obtain ⟨o5, o6⟩ := outC_r (G.2.2.2 105) n T.heap.size n
    generalize Jvm.Free.Multi.outerC (G.2.2.2 105) n T.heap.size n = C at o1 o2 hs o5 o6
    obtain ⟨c1, c2, c3, c4, c5⟩ := C
    have q1 : c1 = G.2.2.2 105 := o1
    have q2 : c2 = (arrV (G.2.2.2 105) n (fun j => .ref (T.heap.size + 1 + j))).slots := hs
    have q3 : c3 = {} := o5
    have q4 : c4 = none := o6
    have q5 : c5 = .none := o2
    rw [q1, q2, q3, q4, q5]
    rfl
  have hinn : Jvm.Free.Multi.innerC (G.2.2.2 100) k0 (.int 0) = arrV (G.2.2.2 100) k0 (fun _ => .int 0) := arrV_new _ _ _
  rw [hout] at g2
  rw [hinn] at g3
  have hA := hC.2.2.2.2.2.2.2.2.2.2.2.1
  have hO := hC.2.2.2.2.2.2.2.2.2.2.2.2.2
  have hfr : ∀ j, j ≤ n → M (T.heap.size + j) = none := fun j hj => by
    cases eM : M (T.heap.size + j) with
    | none => rfl
    | some c0 =>
      have := cAt_lt (hH.1 _ _ eM).2
      omega
  have hXH : XH G (k.1 - (1 + n), k.2 - (n + n * k0)) (mrow M T.heap.size n k0) R s A F.heap (locs ++ (List.range n).map fun j => ⟨T.heap.size, j⟩) (cells + 1 + n) (slots + n + n * k0) := by
    refine ⟨fun a c0 h0 => ?_, fun a c0 h0 => ?_, ⟨Nat.le_trans hH.2.2.1.1 (by rw [g1]; omega), fun q q1 q2 => (g4 q (Nat.lt_of_lt_of_le q1 hH.2.2.1.1)).trans (hH.2.2.1.2.1 q q1 q2), fun q hq => ?_⟩, ?_, ?_⟩
    · unfold mrow at h0
      by_cases z1 : a = T.heap.size
      · rw [if_pos z1] at h0
        cases h0
        exact ⟨by rw [z1]; exact Nat.le_trans hO.1 hH.2.2.1.1, Or.inr ⟨(show 100 ≤ 105 by decide), by rw [z1]; exact g2⟩⟩
      · rw [if_neg z1] at h0
        by_cases z2 : T.heap.size < a ∧ a ≤ T.heap.size + n
        · rw [if_pos z2] at h0
          cases h0
          have := g3 (a - (T.heap.size + 1)) (by omega)
          rw [show T.heap.size + 1 + (a - (T.heap.size + 1)) = a by omega] at this
          exact ⟨Nat.le_trans (Nat.le_trans hO.1 hH.2.2.1.1) (Nat.le_of_lt z2.1), Or.inr ⟨Nat.le_refl 100, this⟩⟩
        · rw [if_neg z2] at h0
          exact ⟨(hH.1 a c0 h0).1, cAt_kept (hH.1 a c0 h0).2 (g4 a (cAt_lt (hH.1 a c0 h0).2))⟩
    · unfold mrow at h0
      by_cases z1 : a = T.heap.size
      · rw [z1]; exact hA _ hH.2.2.1.1
      · rw [if_neg z1] at h0
        by_cases z2 : T.heap.size < a ∧ a ≤ T.heap.size + n
        · exact hA _ (Nat.le_trans hH.2.2.1.1 (Nat.le_of_lt z2.1))
        · rw [if_neg z2] at h0; exact hH.2.1 a c0 h0
    · rcases List.mem_append.mp hq with hq | hq
      · exact hH.2.2.1.2.2 q hq
      · obtain ⟨j, -, rfl⟩ := List.mem_map.mp hq
        exact hA _ hH.2.2.1.1
    · have h9 := hH.2.2.2.1
      have h8 := hk.1
      show cells + 1 + n + (k.1 - (1 + n)) ≤ _
      omega
    · have h9 := hH.2.2.2.2
      have h8 := hk.2
      show slots + n + n * k0 + (k.2 - (n + n * k0)) ≤ _
      omega
  obtain ⟨t, a1, b9⟩ := kk T.heap.size hfr p e R s m args below meth c F.heap _ (cells + 1 + n) (slots + n + n * k0) A ls hC hXH hl F rfl X'
  exact ⟨t, hstep t a1, b9⟩
end MNA
