/-! what stands at the start and stays: old arrays, old objects, statics, literals -/
def oldA (G : Gam) : Nat → Prop := fun q => G.2.1.heap.size ≤ q
def OldT (G : Gam) (ty : FieldType) (t N : Nat) (f : Nat → Value) : Prop := va_T ty t N f (oldA G) G.2.1 G.2.1.heap
def OldF (G : Gam) (o n dd : String) (v : Value) (t : Nat) : Prop := va_OF o n dd v t (oldA G) G.2.1 G.2.1.heap
def OldZ (G : Gam) (C n dd : String) (v : Value) : Prop := va_Z C n dd v (oldA G) G.2.1 G.2.1.heap
theorem old_q {G : Gam} {H : Heap} (h : OldOK G H) : ∀ a : Nat, a < G.2.1.heap.size → ¬ oldA G a → H[a]? = G.2.1.heap[a]? := fun a ha _ => h.2 a ha
section OLD
variable {G : Gam} {d : Nat} {Y : MR} {p : Program} {R : Room} {s : State} {m : MethodId} {meth : Method} {c : Code} {A : Nat → Prop}
theorem XC.oT (hC : XC G d Y p R s m meth c A) {ty : FieldType} {t N : Nat} {f : Nat → Value} (h : OldT G ty t N f) : va_T ty t N f A s s.heap := by
  obtain ⟨-, -, -, -, -, -, -, -, hW, -, -, -, h3, h4⟩ := hC
  exact ((va_T.kept h (old_q h4)).moved hW.alike).narrow h3
theorem XC.oF (hC : XC G d Y p R s m meth c A) {o n dd : String} {v : Value} {t : Nat} (h : OldF G o n dd v t) : va_OF o n dd v t A s s.heap := by
  obtain ⟨-, -, -, -, -, -, -, -, hW, -, -, -, h3, h4⟩ := hC
  exact ((va_OF.kept h (old_q h4)).moved hW.alike).narrow h3
end OLD
