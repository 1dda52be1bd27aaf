/-! FOUNDATION: one memory for all cells (address to kind, size, contents), a judgement XJ of a frame over it, a contract CT of a method over it. -/
abbrev Cel : Type := Nat × Nat × (Nat → Value)
abbrev Mem : Type := Nat → Option Cel
abbrev Lv : Type := List (Nat × Value)
/-- launch, the state at the law's entry, class numbers, array classes -/
abbrev Gam : Type := Launch × State × va_G × (Nat → ClassId)
/-- a method: name, code, locals, what it returns -/
abbrev MR : Type := MethodName × ByteArray × Nat × Option FieldType
def tyA (k : Nat) : FieldType := match k with
  | 101 => .byte
  | 102 => .char
  | 103 => .boolean
  | 104 => .long
  | 105 => .array .int
  | 106 => .object "java/lang/Object"
  | _ => .int
def cAt (D : va_G) (tA : Nat → ClassId) (a : Nat) (c : Cel) (H : Heap) : Prop :=
  (c.1 < 100 ∧ ∃ q : vw_C, vwCl[c.1]? = some q ∧ q.2.2 = c.2.1 ∧ t_OB a (D.1 c.1) q.2.2 (D.2 c.1) H c.2.2) ∨ (100 ≤ c.1 ∧ H[a]? = some (arrV (tA c.1) c.2.1 c.2.2))
def Rel (G : Gam) (M : Mem) (H : Heap) : Prop := ∀ (a : Nat) (c : Cel), M a = some c → G.2.1.heap.size ≤ a ∧ cAt G.2.2.1 G.2.2.2 a c H
def OldOK (G : Gam) (H : Heap) : Prop := G.2.1.heap.size ≤ H.size ∧ ∀ q : Nat, q < G.2.1.heap.size → H[q]? = G.2.1.heap[q]?
/-- what the tables say of an array class -/
def ArrK (U : State) (tA : Nat → ClassId) (k : Nat) : Prop := ArrOfT U (tA k) (tyA k) ∧ U.vm.findClass ("[" ++ (tyA k).toString) = some (tA k) ∧ ∃ (kA : Class) (comp : ClassId), U.vm.classes[tA k]? = some kA ∧ kA.kind = .array comp (tyA k)
def BaseOK (G : Gam) : Prop :=
  (∃ b : Nat, ∀ w ∈ lw_tbl, w.before #[Value.ref b] G.2.1 = true) ∧ va_K G.2.2.1 vwCl [] G.2.1 ∧ (∀ k, 100 ≤ k → k < 107 → ArrK G.2.1 G.2.2.2 k)
def AX (M : Mem) (sz : Nat) : Nat → Prop := fun q => (∃ c, M q = some c) ∨ sz ≤ q
def QX (G : Gam) (A : Nat → Prop) (Q : Option Value → Mem → Prop) : Array Value → State → Outcome → State → Prop := fun _ st oc t =>
  (∃ (r : Option Value) (M : Mem), oc = .returned r ∧ Q r M ∧ Rel G M t.heap ∧ ∀ a c, M a = some c → A a) ∧ va_F A st t
def rmX (d : Nat) (k : Nat × Nat) : Room := { frames := d, cells := k.1, slots := k.2, locals := 64 * d }
def PX (G : Gam) (M : Mem) (sz : Nat) (U : State) : Prop := BaseOK G ∧ G.2.1.WarmedH U.vm ∧ OldOK G U.heap ∧ U.heap.size = sz ∧ Rel G M U.heap
def CT (G : Gam) (d : Nat) (k : Nat × Nat) (Y : MR) (av : List Value) (M : Mem) (Q : Option Value → Mem → Prop) : Prop :=
  ∀ sz : Nat, Met G.1 Y.1 [.code Y.1 Y.2.1 Y.2.2.1 Y.2.2.2] (rmX d k) (va_Pc av (PX G M sz)) (QX G (AX M sz) Q) k.1 k.2 (AX M sz)
def XC (G : Gam) (d : Nat) (Y : MR) (p : Program) (R : Room) (s : State) (m : MethodId) (meth : Method) (c : Code) (A : Nat → Prop) : Prop :=
  BaseOK G ∧ p.tables.exec = Jvm.exec ∧ c.code = Y.2.1 ∧ meth.sig.returnType = Y.2.2.2 ∧ c.maxLocals = Y.2.2.1 ∧ s.vm.findClass Y.1.cls = some m.cls ∧ meth.locks = false ∧ meth.name = Y.1.name ∧
  G.2.1.WarmedH s.vm ∧ R.frames = d ∧ R.locals = 64 * d ∧ (∀ q, s.heap.size ≤ q → A q) ∧ (∀ q, A q → G.2.1.heap.size ≤ q) ∧ OldOK G s.heap
def XH (G : Gam) (k : Nat × Nat) (M : Mem) (R : Room) (s : State) (A : Nat → Prop) (H : Heap) (locs : List Loc) (cells slots : Nat) : Prop :=
  Rel G M H ∧ (∀ a c, M a = some c → A a) ∧ va_S A s.heap H locs ∧ cells + k.1 ≤ R.cells ∧ slots + k.2 ≤ R.slots
def XJ (G : Gam) (d : Nat) (k : Nat × Nat) (Y : MR) (M : Mem) (lv : Lv) (st : List Value) (pc : Nat) (Q : Option Value → Mem → Prop) : Prop :=
  ∀ (p : Program) (e : Env) (R : Room) (s : State) (m : MethodId) (args : Array Value) (below : List Frame) (meth : Method) (c : Code) (H : Heap) (locs : List Loc) (cells slots : Nat) (A : Nat → Prop) (ls : Array Slot),
    XC G d Y p R s m meth c A → XH G k M R s A H locs cells slots → lv_has ls Y.2.2.1 lv →
    W p G.1 e R s m args below meth c H locs cells slots (MQ below (QX G A Q) args s R.cells R.slots A) (F0 m pc ls st)
/-! words of the tables, anywhere -/
theorem tb_good {G : Gam} (hB : BaseOK G) {w : Cond} (hw : w ∈ lw_tbl) (hg : goodWord w = true) {args : Array Value} {s : State} (hW : G.2.1.WarmedH s.vm) : w.before args s = true := by
  obtain ⟨⟨b, h⟩, -⟩ := hB
  exact word_at hW (good_of_word hg) (h w hw)
theorem tb_nestF {G : Gam} (hB : BaseOK G) {own ref name desc host : String} {i : Nat} (hw : Cond.fieldLinkNest own i ref name desc host ∈ lw_tbl) {args : Array Value} {s : State} (hW : G.2.1.WarmedH s.vm) : (Cond.fieldLinkNest own i ref name desc host).before args s = true := by
  obtain ⟨⟨b, h⟩, -⟩ := hB
  exact va_Nw.use rfl (va_Nw.warmF hW (va_Nw.of rfl (h _ hw)))
theorem tb_nestM {G : Gam} (hB : BaseOK G) {own host : String} {i : Nat} {y : MethodName} (hw : Cond.methodLinkNest own i y host ∈ lw_tbl) {s : State} (hW : G.2.1.WarmedH s.vm) : va_Nw (Cond.methodLinkNest own i y host) s := by
  obtain ⟨⟨b, h⟩, -⟩ := hB
  exact va_Nw.warmM hW (va_Nw.of rfl (h _ hw))
theorem bs_K {G : Gam} (hB : BaseOK G) {s : State} (hW : G.2.1.WarmedH s.vm) : va_K G.2.2.1 vwCl [] s := va_K.moved hW.alike hB.2.1
theorem oldX {G : Gam} {A : Nat → Prop} {s : State} {H : Heap} {locs : List Loc} (hO : OldOK G s.heap) (hS : va_S A s.heap H locs) (hb : ∀ q, A q → G.2.1.heap.size ≤ q) : OldOK G H :=
  ⟨Nat.le_trans hO.1 hS.1, fun q hq => (hS.2.1 q (Nat.lt_of_lt_of_le hq hO.1) (fun h => absurd (hb q h) (Nat.not_le.mpr hq))).trans (hO.2 q hq)⟩
/-! locals -/
def lget : Lv → Nat → Option Value
  | [], _ => none
  | (j, v) :: t, i => bif Nat.beq j i then some v else lget t i
theorem lget_mem : ∀ {lv : Lv} {i : Nat} {v : Value}, lget lv i = some v → (i, v) ∈ lv
  | [], _, _, h => by cases h
  | (j, w) :: t, i, v, h => by
    unfold lget at h
    cases e : Nat.beq j i with
    | true =>
      rw [e] at h
      have hj : j = i := Nat.eq_of_beq_eq_true e
      cases h
      subst hj
      exact List.mem_cons_self
    | false =>
      rw [e] at h
      exact List.mem_cons_of_mem _ (lget_mem h)
theorem lget_has {ls : Array Slot} {n : Nat} {lv : Lv} (h : lv_has ls n lv) {i : Nat} {v : Value} (hg : lget lv i = some v) : ls[i]? = some (.val v) := h.2.2 (i, v) (lget_mem hg)
theorem lget_lt {ls : Array Slot} {n : Nat} {lv : Lv} (h : lv_has ls n lv) {i : Nat} {v : Value} (hg : lget lv i = some v) : i < n := by
  have := (Array.getElem?_eq_some_iff.mp (lget_has h hg)).1
  rw [← h.1]; exact this
def lkil (i : Nat) : Lv → Lv
  | [] => []
  | (j, v) :: t => bif Nat.beq j i then lkil i t else (bif Nat.beq (j + 1) i && Nat.beq v.category 2 then lkil i t else (j, v) :: lkil i t)
theorem lkil_sub : ∀ {lv : Lv} {i : Nat} {q : Nat × Value}, q ∈ lkil i lv → q ∈ lv.filter (fun q => !(q.1 == i) && !(q.1 + 1 == i && q.2.category == 2))
  | [], _, _, h => by cases h
  | (j, w) :: t, i, q, h => by
    unfold lkil at h
    rw [List.filter_cons]
    cases e : Nat.beq j i with
    | true =>
      rw [e] at h
      have hj : (j == i) = true := by rw [beq_iff_eq]; exact Nat.eq_of_beq_eq_true e
      simp only [hj, Bool.not_true, Bool.false_and, Bool.false_eq_true, if_false]
      exact lkil_sub h
    | false =>
      rw [e] at h
      have hj : (j == i) = false := by
        rw [beq_eq_false_iff_ne]; exact Nat.ne_of_beq_eq_false e
      cases e2 : (Nat.beq (j + 1) i && Nat.beq w.category 2) with
      | true =>
        rw [e2] at h
        have h3 := lkil_sub (lv := t) h
        split
        · exact List.mem_cons_of_mem _ h3
        · exact h3
      | false =>
        rw [e2] at h
        have hk : (j + 1 == i && w.category == 2) = false := by
          cases e3 : (j + 1 == i && w.category == 2) with
          | false => rfl
          | true =>
            rw [Bool.and_eq_true, beq_iff_eq, beq_iff_eq] at e3
            rw [e3.1, e3.2] at e2
            simp at e2
        simp only [hj, hk, Bool.not_false, Bool.and_true, if_true]
        rcases List.mem_cons.mp h with h | h
        · rw [h]; exact List.mem_cons_self
        · exact List.mem_cons_of_mem _ (lkil_sub h)
def lset (lv : Lv) (i : Nat) (v : Value) : Lv := (i, v) :: lkil i lv
theorem lset_has {ls : Array Slot} {n i : Nat} {v : Value} {lv : Lv} (h : lv_has ls n ((i, v) :: lv.filter (fun q => !(q.1 == i) && !(q.1 + 1 == i && q.2.category == 2)))) : lv_has ls n (lset lv i v) := by
  refine ⟨h.1, h.2.1, fun q hq => h.2.2 q ?_⟩
  rcases List.mem_cons.mp hq with hq | hq
  · rw [hq]; exact List.mem_cons_self
  · exact List.mem_cons_of_mem _ (lkil_sub hq)
/-- a long's two places -/
def lset2 (lv : Lv) (i : Nat) (v : Value) : Lv := (i, v) :: lkil (i + 1) (lkil i lv)
theorem lkil_mem {lv : Lv} {i : Nat} {q : Nat × Value} (h : q ∈ lkil i lv) : q ∈ lv ∧ q.1 ≠ i ∧ ¬ (q.1 + 1 = i ∧ q.2.category = 2) := by
  have h1 := List.mem_filter.mp (lkil_sub h)
  refine ⟨h1.1, ?_, ?_⟩
  · intro e
    have := h1.2
    simp [e] at this
  · intro ⟨e1, e2⟩
    have := h1.2
    simp [e1, e2] at this
theorem lset2_has {ls : Array Slot} {n i : Nat} {v : Value} {lv : Lv} (h : lv_has ls n ((i, v) :: lv.filter (fun q => !(q.1 == i) && (!(q.1 == i + 1) && !(q.1 + 1 == i && q.2.category == 2))))) : lv_has ls n (lset2 lv i v) := by
  refine ⟨h.1, h.2.1, fun q hq => h.2.2 q ?_⟩
  rcases List.mem_cons.mp hq with hq | hq
  · rw [hq]; exact List.mem_cons_self
  · obtain ⟨h1, h2, -⟩ := lkil_mem hq
    obtain ⟨h3, h4, h5⟩ := lkil_mem h1
    refine List.mem_cons_of_mem _ (List.mem_filter.mpr ⟨h3, ?_⟩)
    simp only [Bool.and_eq_true, Bool.not_eq_true', beq_eq_false_iff_ne, ne_eq, Bool.and_eq_false_iff]
    refine ⟨h4, h2, ?_⟩
    by_cases e : q.1 + 1 = i
    · exact Or.inr (by intro z; exact h5 ⟨e, by simpa using z⟩)
    · exact Or.inl e
/-- fewer listed locals -/
def lle : Lv → Lv → Prop
  | [], _ => True
  | (i, v) :: t, lv => lget lv i = some v ∧ lle t lv
theorem lle_has : ∀ {l1 lv : Lv} {ls : Array Slot} {n : Nat}, lle l1 lv → lv_has ls n lv → lv_has ls n l1
  | [], _, _, _, _, h => ⟨h.1, h.2.1, fun q hq => by cases hq⟩
  | (i, v) :: t, lv, ls, n, h1, h => by
    obtain ⟨a, b, c⟩ := lle_has (l1 := t) h1.2 h
    refine ⟨a, b, fun q hq => ?_⟩
    rcases List.mem_cons.mp hq with hq | hq
    · rw [hq]; exact lget_has h h1.1
    · exact c q hq
