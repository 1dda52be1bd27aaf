/-! rows of rows are made: the machine behind i of the n rows, and what the instruction comes to -/
/-- what stands in the row of rows at h: the first i rows, behind them nothing yet -/
def rrF (h i : Nat) : Nat → Value := fun j => if j < i then .ref (h + 1 + j) else .null
theorem rrF_0 (h : Nat) : rrF h 0 = fun _ => .null := funext fun j => if_neg (Nat.not_lt_zero j)
theorem rrF_succ (h i : Nat) : updV (rrF h i) i (.ref (h + 1 + i)) = rrF h (i + 1) := by
  funext j
  show (if j = i then Value.ref (h + 1 + i) else if j < i then .ref (h + 1 + j) else .null) = if j < i + 1 then .ref (h + 1 + j) else .null
  by_cases e : j = i
  · rw [if_pos e, if_pos (by omega), e]
  · rw [if_neg e]
    by_cases e2 : j < i
    · rw [if_pos e2, if_pos (by omega)]
    · rw [if_neg e2, if_neg (by omega)]
theorem rrF_full {h n j : Nat} (hj : j < n) : rrF h n j = .ref (h + 1 + j) := if_pos hj
/-- one row more: its cell at the end, the row of rows written -/
theorem rr_step (H : Heap) (h : Nat) (x y : Cell) (hh : h < H.size) (a : Nat) : ((H.push x).setIfInBounds h y)[a]? = if a = h then some y else if a = H.size then some x else H[a]? := by
  rw [Array.getElem?_setIfInBounds, Array.getElem?_push, Array.size_push]
  by_cases e : a = h
  · rw [if_pos e.symm, if_pos e, if_pos (Nat.lt_succ_of_lt hh)]
  · rw [if_neg (Ne.symm e), if_neg e]
def rrS (T : State) (cA cC : ClassId) (n k0 : Nat) : Nat → State
  | 0 => T.pushCell (arrV cA n (rrF T.heap.size 0))
  | i + 1 => ((rrS T cA cC n k0 i).pushCell (arrV cC k0 fun _ => .int 0)).setCell T.heap.size (arrV cA n (rrF T.heap.size (i + 1)))
theorem rrS_top (T : State) (f : JFrame) (cA cC : ClassId) (n k0 : Nat) : ∀ i, rrS (T.setTop f) cA cC n k0 i = (rrS T cA cC n k0 i).setTop f
  | 0 => rfl
  | i + 1 => by
    show ((rrS (T.setTop f) cA cC n k0 i).pushCell _).setCell _ _ = _
    rw [rrS_top T f cA cC n k0 i]
    rfl
theorem rrS_all (T : State) (cA cC : ClassId) (n k0 : Nat) : ∀ i, (rrS T cA cC n k0 i).heap.size = T.heap.size + 1 + i ∧ (rrS T cA cC n k0 i).heap[T.heap.size]? = some (arrV cA n (rrF T.heap.size i)) ∧
    (∀ j, j < i → (rrS T cA cC n k0 i).heap[T.heap.size + 1 + j]? = some (arrV cC k0 fun _ => .int 0)) ∧ (∀ a : Nat, a < T.heap.size → (rrS T cA cC n k0 i).heap[a]? = T.heap[a]?) ∧
    (rrS T cA cC n k0 i).vm = T.vm ∧ (rrS T cA cC n k0 i).slotsUsed = T.slotsUsed + n + i * k0
  | 0 => by
    have hH : (rrS T cA cC n k0 0).heap = T.heap.push (arrV cA n (rrF T.heap.size 0)) := rfl
    refine ⟨?_, ?_, fun j hj => absurd hj (Nat.not_lt_zero j), fun a ha => ?_, rfl, ?_⟩
    · rw [hH, Array.size_push]
    · rw [hH, Array.getElem?_push_size]
    · rw [hH, Array.getElem?_push, if_neg (Nat.ne_of_lt ha)]
    · show T.slotsUsed + (arrV cA n (rrF T.heap.size 0)).slots.size = _
      rw [arrV_size, Nat.zero_mul]
      rfl
  | i + 1 => by
    obtain ⟨a1, a2, a3, a4, a5, a6⟩ := rrS_all T cA cC n k0 i
    have hs := fun a => rr_step (rrS T cA cC n k0 i).heap T.heap.size (arrV cC k0 fun _ => .int 0) (arrV cA n (rrF T.heap.size (i + 1))) (by omega) a
    have hH : (rrS T cA cC n k0 (i + 1)).heap = ((rrS T cA cC n k0 i).heap.push (arrV cC k0 fun _ => .int 0)).setIfInBounds T.heap.size (arrV cA n (rrF T.heap.size (i + 1))) := rfl
    refine ⟨?_, ?_, fun j hj => ?_, fun a ha => ?_, a5, ?_⟩
    · rw [hH, Array.size_setIfInBounds, Array.size_push, a1]
      rfl
    · rw [hH, hs, if_pos rfl]
    · rw [hH, hs, if_neg (by omega)]
      by_cases e : j = i
      · rw [if_pos (by rw [a1, e])]
      · rw [if_neg (by omega), a3 j (by omega)]
    · rw [hH, hs, if_neg (Nat.ne_of_lt ha), if_neg (by omega), a4 a ha]
    · show (rrS T cA cC n k0 i).slotsUsed + (arrV cC k0 fun _ => .int 0).slots.size = _
      rw [a6, arrV_size, Nat.succ_mul]
      omega
section RRX
variable {p : Program} {l : Launch} {e : Env} {R : Room} {s : State} {m : MethodId} {args : Array Value} {below : List Frame} {meth : Method} {c : Code} {T : State} {locs : List Loc} {cells slots : Nat}
theorem rrS_stand (X : Stand p l e R s m args below meth c T locs cells slots) (cA cC : ClassId) (n k0 : Nat) : ∀ i, Stand p l e R s m args below meth c (rrS T cA cC n k0 i) (locs ++ (List.range i).map fun j => ⟨T.heap.size, j⟩) (cells + 1 + i) (slots + n + i * k0)
  | 0 => by
    have h := X.pushed (arrV cA n (rrF T.heap.size 0))
    rw [arrV_size] at h
    rw [List.range_zero, List.map_nil, List.append_nil, Nat.zero_mul]
    exact h
  | i + 1 => by
    obtain ⟨a1, a2, -⟩ := rrS_all T cA cC n k0 i
    have hc : ((rrS T cA cC n k0 i).pushCell (arrV cC k0 fun _ => .int 0)).heap[T.heap.size]? = some (arrV cA n (rrF T.heap.size i)) := by
      show ((rrS T cA cC n k0 i).heap.push _)[T.heap.size]? = _
      rw [Array.getElem?_push, if_neg (by omega), a2]
    have h := ((rrS_stand X cA cC n k0 i).pushed (arrV cC k0 fun _ => .int 0)).stored hc i (.ref (T.heap.size + 1 + i))
    rw [arrV_store, rrF_succ, arrV_size] at h
    have e1 : slots + n + (i + 1) * k0 = slots + n + i * k0 + k0 := by rw [Nat.succ_mul]; omega
    rw [List.range_succ, List.map_append, ← List.append_assoc, e1]
    exact h
end RRX
section RRW
variable {E : CtlPost} {e : Env} {d : Bool} {acts : List Action} {T : State} {cA cC cc : ClassId} {kA kC : Class} {i1 i2 : Int32}
/-- one row -/
theorem rr_row (hkC : T.vm.classes[cC]? = some kC) (hC : kC.kind = .array cc .int) (h2 : ¬ i2 < 0) (l2 : ¬ i2.toNatClampNeg > e.platform.arrayLengthLimit) (m2 : ¬ i2.toNatClampNeg * componentBytes .int > e.platform.maxHeapBytes)
    (r1 : T.heap.size < e.platform.maxCells) (r2 : T.slotsUsed + i2.toNatClampNeg ≤ e.platform.maxSlots) {Q : Addr → Pre} (hq : ∀ acts', Q T.heap.size d acts' (T.pushCell (arrV cC i2.toNatClampNeg fun _ => .int 0))) : wp (multianewarray.make cC [i2]) Q E e d acts T := by
  rw [multianewarray.make]
  simp only [wp_bind', W.ite, h2, if_false, wp_pure', W.theClass, hkC, hC, Option.some.injEq, exists_eq_left']
  exact W.newArray_of hkC hC l2 m2 r1 r2 rfl fun acts' => by rw [show (defaultValue (.int : FieldType)) = .int 0 from rfl, arrV_new]; exact hq acts'
theorem rr_all (hkA : T.vm.classes[cA]? = some kA) (hA : kA.kind = .array cC (.array .int)) (hkC : T.vm.classes[cC]? = some kC) (hC : kC.kind = .array cc .int) (h1 : ¬ i1 < 0) (h2 : ¬ i2 < 0)
    (l1 : ¬ i1.toNatClampNeg > e.platform.arrayLengthLimit) (m1 : ¬ i1.toNatClampNeg * componentBytes (.array .int) > e.platform.maxHeapBytes) (l2 : ¬ i2.toNatClampNeg > e.platform.arrayLengthLimit) (m2 : ¬ i2.toNatClampNeg * componentBytes .int > e.platform.maxHeapBytes)
    (r1 : T.heap.size + (1 + i1.toNatClampNeg) ≤ e.platform.maxCells) (r2 : T.slotsUsed + (i1.toNatClampNeg + i1.toNatClampNeg * i2.toNatClampNeg) ≤ e.platform.maxSlots)
    {Q : Addr → Pre} (hq : ∀ d' acts', Q T.heap.size d' acts' (rrS T cA cC i1.toNatClampNeg i2.toNatClampNeg i1.toNatClampNeg)) : wp (multianewarray.make cA [i1, i2]) Q E e d acts T := by
  generalize hn : i1.toNatClampNeg = n at *
  rw [multianewarray.make]
  simp only [wp_bind', W.ite, h1, if_false, wp_pure', W.theClass, hkA, hA, Option.some.injEq, exists_eq_left', hn]
  refine W.newArray_of hkA hA l1 m1 (by omega) (Nat.le_trans (Nat.add_le_add_left (Nat.le_add_right _ _) _) r2) rfl fun acts1 => ?_
  rw [arrV_new, ← rrF_0 T.heap.size]
  have hf : [i2].find? (· < 0) = none := by simp [h2]
  simp only [hf, ite_self, wp_bind', Std.Legacy.Range.forIn_eq_forIn_range']
  have hz : ([:n] : Std.Legacy.Range).size = n := by simp [Std.Legacy.Range.size]
  rw [hz]
  refine wp_forIn_inv (fun rest s' => ∃ i, i ≤ n ∧ rest = List.range' i (n - i) ∧ s' = rrS T cA cC n i2.toNatClampNeg i) _ _ ⟨0, Nat.zero_le _, rfl, rfl⟩ ?_ ?_
  · rintro x rest s' d' acts' Q' ⟨i, -, hl, rfl⟩ next
    have hi : i < n := by
      rcases Nat.lt_or_ge i n with h | h
      · exact h
      · rw [Nat.sub_eq_zero_of_le h] at hl
        cases hl
    rw [show n - i = (n - (i + 1)) + 1 by omega, List.range'_succ] at hl
    obtain ⟨e1, e2⟩ := List.cons.inj hl
    subst e1
    obtain ⟨a1, a2, -, -, a5, a6⟩ := rrS_all T cA cC n i2.toNatClampNeg x
    have hm : (x + 1) * i2.toNatClampNeg ≤ n * i2.toNatClampNeg := Nat.mul_le_mul_right _ hi
    rw [Nat.succ_mul] at hm
    simp only [wp_bind']
    refine rr_row (by rw [a5]; exact hkC) hC h2 l2 m2 (by omega) (by omega) fun acts2 => ?_
    have hc : ((rrS T cA cC n i2.toNatClampNeg x).pushCell (arrV cC i2.toNatClampNeg fun _ => .int 0)).heap[T.heap.size]? = some (arrV cA n (rrF T.heap.size x)) := by
      show ((rrS T cA cC n i2.toNatClampNeg x).heap.push _)[T.heap.size]? = _
      rw [Array.getElem?_push, if_neg (by omega), a2]
    have hkA' : ((rrS T cA cC n i2.toNatClampNeg x).pushCell (arrV cC i2.toNatClampNeg fun _ => .int 0)).vm.classes[cA]? = some kA := by
      show (rrS T cA cC n i2.toNatClampNeg x).vm.classes[cA]? = _
      rw [a5]; exact hkA
    simp only [wp_bind', W.writeLoc, wp_pure']
    have hk0 : (arrV cA n (rrF T.heap.size x)).vm ≠ .unknown := fun z => by cases z
    have hz0 : x < (arrV cA n (rrF T.heap.size x)).slots.size := by rw [arrV_size]; exact hi
    refine ⟨arrV cA n (rrF T.heap.size x), hc, hk0, hz0, ?_, next _ _ _ ⟨x + 1, hi, e2, ?_⟩⟩
    · have hv : (arrV cA n (rrF T.heap.size x)).vm = .none := rfl
      have hcl : (arrV cA n (rrF T.heap.size x)).cls = cA := rfl
      rw [hv, hcl]
      simp only [State.fitsSlot, State.slotType?, hkA', Option.bind_eq_bind, Option.bind_some, hA]
      rfl
    · rw [a1, arrV_store, rrF_succ]
      rfl
  · rintro s' d' acts' ⟨i, hi, hl, rfl⟩
    have hin : i = n := by
      rcases Nat.lt_or_ge i n with h | h
      · rw [show n - i = (n - (i + 1)) + 1 by omega, List.range'_succ] at hl
        cases hl
      · omega
    subst hin
    simp only [wp_pure']
    exact hq _ _
end RRW
section RRM
variable {p : Program} {l : Launch} {e : Env} {R : Room} {s : State} {m : MethodId} {args : Array Value} {below : List Frame} {meth : Method} {c : Code} {H : Heap} {locs : List Loc} {cells slots : Nat} {Q : State → Prop}
theorem W.rrows {cc : ByteArray} (hexec : p.tables.exec = Jvm.exec) (hb : c.code = cc) {own : String} {index n k0 : Nat} {i1 i2 : Int32} (hown : s.vm.findClass own = some m.cls) (hclink : (Cond.classLink own index "[[I").before args s = true)
    (hover : (Cond.arrayOver (.array .int)).before args s = true) (harr : (Cond.arrayClass .int).before args s = true) {g : JFrame} (hg : g.method = m) (hdg : decode cc g.pc = .ok (.multianewarray index 2, 4)) {rest : List Value} (hstack : g.stack = .int i2 :: .int i1 :: rest)
    (h1 : ¬ i1 < 0) (h2 : ¬ i2 < 0) (e1 : i1.toNatClampNeg = n) (e2 : i2.toNatClampNeg = k0) (b1 : n ≤ 1000) (b2 : k0 ≤ 60000) (hcells : cells + (1 + n) ≤ R.cells) (hslots : slots + (n + n * k0) ≤ R.slots)
    (kk : ∀ (cA cC : ClassId), s.vm.findClass "[[I" = some cA → s.vm.findClass "[I" = some cC → ∀ H1 : Heap, H1.size = H.size + 1 + n → H1[H.size]? = some (arrV cA n (rrF H.size n)) → (∀ j, j < n → H1[H.size + 1 + j]? = some (arrV cC k0 fun _ => .int 0)) → (∀ a : Nat, a < H.size → H1[a]? = H[a]?) →
      W p l e R s m args below meth c H1 (locs ++ (List.range n).map fun j => ⟨H.size, j⟩) (cells + 1 + n) (slots + n + n * k0) Q { g with pc := g.pc + 4, stack := .ref H.size :: rest }) : W p l e R s m args below meth c H locs cells slots Q g := by
  intro T hT X
  subst hT; subst hb; subst hg; subst e1; subst e2
  have hpl : e.platform.magicAccessors = ({} : Platform).magicAccessors := by rw [X.admits.platform]
  obtain ⟨cC, cA, kA, f1, -, f2, f3, f4⟩ := arrayOverA_spec hover
  obtain ⟨cC', kC, cc, f5, f6, f7⟩ := Cond.arrayClass_spec harr
  cases f1.symm.trans f5
  obtain ⟨cA', f8, hcl⟩ := Cond.classLink_spec hown hclink e.platform hpl
  cases f4.symm.trans f8
  obtain ⟨hg1, hw1, -⟩ := State.classEntry (e := e) X.warmed hcl
  generalize T.vm.noted g.method.cls index (.cls cA) = vm1 at hg1 hw1
  have hal : s.vm.Alike vm1 := hw1.alike
  obtain ⟨kA1, g1, g2⟩ := hal.2.2 _ _ f2
  obtain ⟨kC1, g3, g4⟩ := hal.2.2 _ _ f6
  have X1 := X.noted hw1
  have XF := rrS_stand X1 cA cC i1.toNatClampNeg i2.toNatClampNeg i1.toNatClampNeg
  obtain ⟨a1, a2, a3, a4, -⟩ := rrS_all (T.setVm vm1) cA cC i1.toNatClampNeg i2.toNatClampNeg i1.toNatClampNeg
  obtain ⟨q1, q2⟩ := X.roomAbove hcells hslots
  obtain ⟨t, u1, u2⟩ := kk cA cC f4 f1 _ a1 a2 a3 a4 (rrS (T.setVm vm1) cA cC i1.toNatClampNeg i2.toNatClampNeg i1.toNatClampNeg) rfl XF
  refine ⟨t, ?_, u2⟩
  have l1 : ¬ i1.toNatClampNeg > e.platform.arrayLengthLimit := by rw [Launch.admits_arrayLengthLimit X.admits]; omega
  have l2 : ¬ i2.toNatClampNeg > e.platform.arrayLengthLimit := by rw [Launch.admits_arrayLengthLimit X.admits]; omega
  have m1 : ¬ i1.toNatClampNeg * componentBytes (.array .int) > e.platform.maxHeapBytes := by rw [Launch.admits_maxHeapBytes X.admits]; show ¬ i1.toNatClampNeg * 4 > 536870912; omega
  have m2 : ¬ i2.toNatClampNeg * componentBytes .int > e.platform.maxHeapBytes := by rw [Launch.admits_maxHeapBytes X.admits]; show ¬ i2.toNatClampNeg * 4 > 536870912; omega
  jvm_step X.here [hexec, hdg]
  simp only [multianewarray.sem, wp_bind', W.resolveClassAt_links (State.method?_setTop g X.here.top) hg1]
  rw [W.popN, if_neg (by decide)]
  refine ⟨g, State.topJava?_setTop' (s := T.setVm vm1) g X.here.top, [.int i1, .int i2], rest, rfl, hstack, ?_⟩
  simp only [List.mapM_cons, List.mapM_nil, wp_bind', wp_pure']
  refine rr_all (T := ((T.setTop g).setVm vm1).setTop { g with stack := rest }) (kA := kA1) (kC := kC1) (cC := cC) (cc := cc) g1 (by rw [g2]; exact f3) g3 (by rw [g4]; exact f7) h1 h2 l1 m1 l2 m2 q1 q2 fun d' acts' => ?_
  have eS : ((T.setTop g).setVm vm1).setTop { g with stack := rest } = (T.setVm vm1).setTop { g with stack := rest } := by
    show ((T.setVm vm1).setTop g).setTop _ = _
    rw [State.setTop_setTop]
  rw [eS, rrS_top]
  simp only [wp_bind', W.mark, W.pushRef, State.topJava?_setTop' _ XF.here.top, Option.some.injEq, exists_eq_left', State.setTop_setTop, State.heap_setTop]
  intro acts2
  simp [jvm, XF.here.top]
  exact u1
end RRM
/-! rows of rows are made: the row of the judgement -/
theorem tb141 : (Cond.arrayOver (FieldType.array FieldType.int)) ∈ lw_tbl := tb_r (List.mem_of_getElem? (i := 141) (by decide +kernel))
theorem tb_ao {G : Gam} (hB : BaseOK G) {ty : FieldType} (hw : Cond.arrayOver ty ∈ lw_tbl) {args : Array Value} {s : State} (hW : G.2.1.WarmedH s.vm) : (Cond.arrayOver ty).before args s = true := by
  obtain ⟨⟨b, h⟩, -⟩ := hB
  have h2 : (Cond.arrayOver ty).before #[.ref b] (G.2.1.setVm s.vm) = true := by rw [Cond.arrayOver_setVmC hW.alike]; exact h _ hw
  exact h2
/-- a row of n rows at h, the rows behind it -/
def mrow (M : Mem) (h n k0 : Nat) : Mem := fun a => if a = h then some (105, n, fun j => .ref (h + 1 + j)) else if h < a ∧ a ≤ h + n then some (100, k0, fun _ => .int 0) else M a
section MNA
variable {G : Gam} {d : Nat} {k : Nat × Nat} {Y : MR} {M : Mem} {lv : Lv} {st : List Value} {pc : Nat} {Q : Option Value → Mem → Prop}
theorem x_mna {idx n k0 : Nat} {i1 i2 : Int32} (hd : decode Y.2.1 pc = .ok (.multianewarray idx 2, 4)) (hcl : Cond.classLink Y.1.cls idx "[[I" ∈ lw_tbl) (h1 : ¬ i1 < 0) (h2 : ¬ i2 < 0) (e1 : i1.toNatClampNeg = n) (e2 : i2.toNatClampNeg = k0) (b1 : n ≤ 1000) (b2 : k0 ≤ 60000) (hk : 1 + n ≤ k.1 ∧ n + n * k0 ≤ k.2)
    (kk : ∀ h : Nat, (∀ j, j ≤ n → M (h + j) = none) → XJ G d (k.1 - (1 + n), k.2 - (n + n * k0)) Y (mrow M h n k0) lv (.ref h :: st) (pc + 4) Q) : XJ G d k Y M lv (.int i2 :: .int i1 :: st) pc Q := by
  intro p e R s m args below meth c H locs cells slots A ls hC hH hl
  have hW := hC.2.2.2.2.2.2.2.2.1
  refine W.rrows hC.2.1 hC.2.2.1 hC.2.2.2.2.2.1 (tb_good hC.1 hcl rfl hW) (tb_ao hC.1 tb141 hW) (tb_good hC.1 tb89 rfl hW) rfl hd rfl h1 h2 e1 e2 b1 b2 (Nat.le_trans (Nat.add_le_add_left hk.1 _) hH.2.2.2.1) (Nat.le_trans (Nat.add_le_add_left hk.2 _) hH.2.2.2.2) fun cA cC f1 f2 H1 g1 g2 g3 g4 => ?_
  have hcA : cA = G.2.2.2 105 := by
    have h9 : s.vm.findClass "[[I" = some (G.2.2.2 105) := by
      rw [hW.alike.findClass]
      exact (hC.1.2.2 105 (by decide) (by decide)).2.1
    exact Option.some.inj (f1.symm.trans h9)
  have hcC : cC = G.2.2.2 100 := Option.some.inj (f2.symm.trans (find_100 hC.1 hW))
  subst hcA
  subst hcC
  have hfull : arrV (G.2.2.2 105) n (rrF H.size n) = arrV (G.2.2.2 105) n (fun j => .ref (H.size + 1 + j)) := by
    have hs : (arrV (G.2.2.2 105) n (rrF H.size n)).slots = (arrV (G.2.2.2 105) n (fun j => .ref (H.size + 1 + j))).slots := by
      refine Array.ext_getElem? fun j => ?_
      rcases Nat.lt_or_ge j n with hj | hj
      · rw [arrV_read _ _ hj, arrV_read _ _ hj, rrF_full hj]
      · rw [Array.getElem?_eq_none (by rw [arrV_size]; exact hj), Array.getElem?_eq_none (by rw [arrV_size]; exact hj)]
    unfold arrV at hs ⊢
    rw [show (Array.ofFn (n := n) fun j => rrF H.size n j.val) = Array.ofFn (n := n) fun j => Value.ref (H.size + 1 + j.val) from hs]
  rw [hfull] at g2
  have hA := hC.2.2.2.2.2.2.2.2.2.2.2.1
  have hO := hC.2.2.2.2.2.2.2.2.2.2.2.2.2
  have hfr : ∀ j, j ≤ n → M (H.size + j) = none := fun j hj => by
    cases eM : M (H.size + j) with
    | none => rfl
    | some c0 =>
      have := cAt_lt (hH.1 _ _ eM).2
      omega
  have hXH : XH G (k.1 - (1 + n), k.2 - (n + n * k0)) (mrow M H.size n k0) R s A H1 (locs ++ (List.range n).map fun j => ⟨H.size, j⟩) (cells + 1 + n) (slots + n + n * k0) := by
    refine ⟨fun a c0 h0 => ?_, fun a c0 h0 => ?_, ⟨Nat.le_trans hH.2.2.1.1 (by rw [g1]; omega), fun q q1 q2 => (g4 q (Nat.lt_of_lt_of_le q1 hH.2.2.1.1)).trans (hH.2.2.1.2.1 q q1 q2), fun q hq => ?_⟩, ?_, ?_⟩
    · unfold mrow at h0
      by_cases z1 : a = H.size
      · rw [if_pos z1] at h0
        cases h0
        exact ⟨by rw [z1]; exact Nat.le_trans hO.1 hH.2.2.1.1, Or.inr ⟨(show 100 ≤ 105 by decide), by rw [z1]; exact g2⟩⟩
      · rw [if_neg z1] at h0
        by_cases z2 : H.size < a ∧ a ≤ H.size + n
        · rw [if_pos z2] at h0
          cases h0
          have := g3 (a - (H.size + 1)) (by omega)
          rw [show H.size + 1 + (a - (H.size + 1)) = a by omega] at this
          exact ⟨Nat.le_trans (Nat.le_trans hO.1 hH.2.2.1.1) (Nat.le_of_lt z2.1), Or.inr ⟨Nat.le_refl 100, this⟩⟩
        · rw [if_neg z2] at h0
          exact ⟨(hH.1 a c0 h0).1, cAt_kept (hH.1 a c0 h0).2 (g4 a (cAt_lt (hH.1 a c0 h0).2))⟩
    · unfold mrow at h0
      by_cases z1 : a = H.size
      · rw [z1]; exact hA _ hH.2.2.1.1
      · rw [if_neg z1] at h0
        by_cases z2 : H.size < a ∧ a ≤ H.size + n
        · exact hA _ (Nat.le_trans hH.2.2.1.1 (Nat.le_of_lt z2.1))
        · rw [if_neg z2] at h0; exact hH.2.1 a c0 h0
    · rcases List.mem_append.mp hq with hq | hq
      · exact hH.2.2.1.2.2 q hq
      · obtain ⟨j, -, rfl⟩ := List.mem_map.mp hq
        exact hA _ hH.2.2.1.1
    · have h9 := hH.2.2.2.1
      have h8 := hk.1
      show cells + 1 + n + (k.1 - (1 + n)) ≤ _
      omega
    · have h9 := hH.2.2.2.2
      have h8 := hk.2
      show slots + n + n * k0 + (k.2 - (n + n * k0)) ≤ _
      omega
  exact kk H.size hfr p e R s m args below meth c H1 _ (cells + 1 + n) (slots + n + n * k0) A ls hC hXH hl
end MNA
