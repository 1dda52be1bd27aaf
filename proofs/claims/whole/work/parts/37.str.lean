/-! what stands at the start and stays: old arrays, old objects, statics, literals -/
def oldA (G : Gam) : Nat → Prop := fun q => G.2.1.heap.size ≤ q
def OldT (G : Gam) (ty : FieldType) (t N : Nat) (f : Nat → Value) : Prop := va_T ty t N f (oldA G) G.2.1 G.2.1.heap
def OldF (G : Gam) (o n dd : String) (v : Value) (t : Nat) : Prop := va_OF o n dd v t (oldA G) G.2.1 G.2.1.heap
def OldZ (G : Gam) (C n dd : String) (v : Value) : Prop := va_Z C n dd v (oldA G) G.2.1 G.2.1.heap
theorem old_q {G : Gam} {H : Heap} (h : OldOK G H) : ∀ a : Nat, a < G.2.1.heap.size → ¬ oldA G a → H[a]? = G.2.1.heap[a]? := fun a ha _ => h.2 a ha
section OLD
variable {G : Gam} {d : Nat} {Y : MR} {p : Program} {R : Room} {s : State} {m : MethodId} {meth : Method} {c : Code} {A : Nat → Prop}
theorem XC.oT (hC : XC G d Y p R s m meth c A) {ty : FieldType} {t N : Nat} {f : Nat → Value} (h : OldT G ty t N f) : va_T ty t N f A s s.heap := by
  obtain ⟨-, -, -, -, -, -, -, -, hW, -, -, -, h3, h4⟩ := hC
  exact ((va_T.kept h (old_q h4)).moved hW.alike).narrow h3
theorem XC.oF (hC : XC G d Y p R s m meth c A) {o n dd : String} {v : Value} {t : Nat} (h : OldF G o n dd v t) : va_OF o n dd v t A s s.heap := by
  obtain ⟨-, -, -, -, -, -, -, -, hW, -, -, -, h3, h4⟩ := hC
  exact ((va_OF.kept h (old_q h4)).moved hW.alike).narrow h3
theorem XC.oZ (hC : XC G d Y p R s m meth c A) {C n dd : String} {v : Value} (h : OldZ G C n dd v) : va_Z C n dd v A s s.heap := by
  obtain ⟨-, -, -, -, -, -, -, -, hW, -, -, -, h3, h4⟩ := hC
  exact ((va_Z.kept h (old_q h4)).moved hW.alike).narrow h3
end OLD
section OLDR
variable {G : Gam} {d : Nat} {k : Nat × Nat} {Y : MR} {M : Mem} {lv : Lv} {st : List Value} {pc : Nat} {Q : Option Value → Mem → Prop}
theorem x_obald {n a : Nat} {f : Nat → Value} {i : Int32} {v : Value} (hd : decode Y.2.1 pc = .ok (.baload, 1)) (hT : OldT G .byte a n f) (hin : vp_in i n) (hv : f i.toNatClampNeg = v) (kk : XJ G d k Y M lv (v :: st) (pc + 1) Q) : XJ G d k Y M lv (.int i :: .ref a :: st) pc Q :=
  fun p e R s m args below meth c H locs cells slots A ls hC hH hl => va_tb hC.2.1 hC.2.2.1 (hC.oT hT) hH.2.2.1 hin hv hd (kk p e R s m args below meth c H locs cells slots A ls hC hH hl)
theorem x_olen {n a : Nat} {ty : FieldType} {f : Nat → Value} {v : Int32} (hd : decode Y.2.1 pc = .ok (.arraylength, 1)) (hT : OldT G ty a n f) (hv : Int32.ofNat n = v) (kk : XJ G d k Y M lv (.int v :: st) (pc + 1) Q) : XJ G d k Y M lv (.ref a :: st) pc Q :=
  fun p e R s m args below meth c H locs cells slots A ls hC hH hl => va_tlen hC.2.1 hC.2.2.1 (hC.oT hT) hH.2.2.1 hv hd (kk p e R s m args below meth c H locs cells slots A ls hC hH hl)
theorem x_ogetf {idx a : Nat} {o n dd ref : String} {v : Value} (hd : decode Y.2.1 pc = .ok (.getfield idx, 3)) (hF : OldF G o n dd v a) (hw : Cond.fieldLink Y.1.cls idx ref n dd ∈ lw_tbl) (hs : o = ref) (kk : XJ G d k Y M lv (v :: st) (pc + 3) Q) : XJ G d k Y M lv (.ref a :: st) pc Q := by
  subst hs
  exact fun p e R s m args below meth c H locs cells slots A ls hC hH hl => vk_getf hC.2.1 hC.2.2.1 (hC.oF hF) hH.2.2.1 hC.2.2.2.2.2.1 (tb_good hC.1 hw rfl hC.2.2.2.2.2.2.2.2.1) (fun _ z => z) hd (kk p e R s m args below meth c H locs cells slots A ls hC hH hl)
theorem x_ldcS {idx a : Nat} {tx : String} (hd : decode Y.2.1 pc = .ok (.ldc idx, 2)) (hR : vk_R Y.1.cls idx tx a G.2.1) (kk : XJ G d k Y M lv (.ref a :: st) (pc + 2) Q) : XJ G d k Y M lv st pc Q :=
  fun p e R s m args below meth c H locs cells slots A ls hC hH hl => va_ldcS hC.2.1 hC.2.2.1 hC.2.2.2.2.2.1 (vk_R.warm hC.2.2.2.2.2.2.2.2.1 hR) hd (kk p e R s m args below meth c H locs cells slots A ls hC hH hl)
theorem x_gets {idx : Nat} {C n dd ref : String} {v : Value} (hd : decode Y.2.1 pc = .ok (.getstatic idx, 3)) (hZ : OldZ G C n dd v) (hw : Cond.fieldLink Y.1.cls idx ref n dd ∈ lw_tbl) (hs : C = ref) (kk : XJ G d k Y M lv (v :: st) (pc + 3) Q) : XJ G d k Y M lv st pc Q := by
  subst hs
  exact fun p e R s m args below meth c H locs cells slots A ls hC hH hl => va_gets hC.2.1 hC.2.2.1 (hC.oZ hZ) hH.2.2.1 hC.2.2.2.2.2.1 (tb_good hC.1 hw rfl hC.2.2.2.2.2.2.2.2.1) (fun _ z => z) hd (kk p e R s m args below meth c H locs cells slots A ls hC hH hl)
end OLDR
