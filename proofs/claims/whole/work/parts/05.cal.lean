/-! ends of a method, the contract out of the body's walk, calls -/
theorem CT.of {G : Gam} {d : Nat} {k : Nat × Nat} {Y : MR} {av : List Value} {M : Mem} {Q : Option Value → Mem → Prop} (hy : plainName Y.1.cls = true) (hn : (lg_sl av).length ≤ Y.2.2.1) (h : XJ G d k Y M (lv_args 0 av) [] 0 Q) : CT G d k Y av M Q := by
  intro sz
  refine Met.ofW (cc := Y.2.1) (maxL := Y.2.2.1) (ret := Y.2.2.2) hy rfl ?_
  intro p e s m args below meth c s₁ B hml hv
  obtain ⟨rfl, hB, hW, hO, hsz, hR⟩ := hv
  have hown : s.vm.findClass Y.1.cls = some m.cls := findClass_of_methodNamed B.named
  have hl := lv_entry av (n := Y.2.2.1) hn
  rw [lg_entry_eq]
  exact h p e (rmX d k) s m av.toArray below meth c s.heap [] 0 0 (AX M sz) _ ⟨hB, B.exec, B.bytes, B.returns, hml, hown, B.notSynchronized, (name_of_methodNamed B.named B.method).1, hW, rfl, rfl, fun q hq => Or.inr (by rw [← hsz]; exact hq), fun q hq => by
      rcases hq with ⟨c, hc⟩ | hq
      · exact (hR q c hc).1
      · exact Nat.le_trans (by rw [← hsz]; exact hO.1) hq, hO⟩ ⟨hR, fun a c hc => Or.inl ⟨c, hc⟩, va_S.rf, by simp [rmX], by simp [rmX]⟩ hl
theorem CT.ofF {G : Gam} {d : Nat} {k : Nat × Nat} {Y : MR} {av : List Value} {M : Mem} {Q : Option Value → Mem → Prop} (hy : plainFor Y.1 = true) (hn : (lg_sl av).length ≤ Y.2.2.1) (h : XJ G d k Y M (lv_args 0 av) [] 0 Q) : CT G d k Y av M Q := by
  intro sz
  refine va_MetF (cc := Y.2.1) (maxL := Y.2.2.1) (ret := Y.2.2.2) hy rfl ?_
  intro p e s m args below meth c s₁ B hml hv
  obtain ⟨rfl, hB, hW, hO, hsz, hR⟩ := hv
  have hown : s.vm.findClass Y.1.cls = some m.cls := findClass_of_methodNamed B.named
  have hl := lv_entry av (n := Y.2.2.1) hn
  rw [lg_entry_eq]
  exact h p e (rmX d k) s m av.toArray below meth c s.heap [] 0 0 (AX M sz) _ ⟨hB, B.exec, B.bytes, B.returns, hml, hown, B.notSynchronized, (name_of_methodNamed B.named B.method).1, hW, rfl, rfl, fun q hq => Or.inr (by rw [← hsz]; exact hq), fun q hq => by
      rcases hq with ⟨c, hc⟩ | hq
      · exact (hR q c hc).1
      · exact Nat.le_trans (by rw [← hsz]; exact hO.1) hq, hO⟩ ⟨hR, fun a c hc => Or.inl ⟨c, hc⟩, va_S.rf, by simp [rmX], by simp [rmX]⟩ hl
section XE
variable {G : Gam} {d : Nat} {k : Nat × Nat} {Y : MR} {M : Mem} {lv : Lv} {st : List Value} {pc : Nat} {Q : Option Value → Mem → Prop}
theorem x_ireturn {ty : FieldType} {v : Int32} (hd : decode Y.2.1 pc = .ok (.ireturn, 1)) (hr : Y.2.2.2 = some ty) (hn : narrow ty (.int v) = .int v) (hq : Q (some (.int v)) M) : XJ G d k Y M lv [.int v] pc Q := by
  intro p e R s m args below meth c H locs cells slots A ls hC hH hl
  refine W.widen (k := R.cells) (n := R.slots) (Nat.le_trans (Nat.le_add_right _ _) hH.2.2.2.1) (Nat.le_trans (Nat.le_add_right _ _) hH.2.2.2.2) ?_
  exact W.zret hC.2.1 hC.2.2.1 (hC.2.2.2.1.trans hr) hn (fun t ht _ => ⟨⟨_, M, rfl, hq, by rw [ht]; exact hH.1, hH.2.1⟩, hH.2.2.1.F ht⟩) hH.2.2.1.2.2 hd hC.2.2.2.2.2.2.1
theorem x_lreturn {v : Int64} (hd : decode Y.2.1 pc = .ok (.lreturn, 1)) (hr : Y.2.2.2 = some .long) (hq : Q (some (.long v)) M) : XJ G d k Y M lv [.long v] pc Q := by
  intro p e R s m args below meth c H locs cells slots A ls hC hH hl
  refine W.widen (k := R.cells) (n := R.slots) (Nat.le_trans (Nat.le_add_right _ _) hH.2.2.2.1) (Nat.le_trans (Nat.le_add_right _ _) hH.2.2.2.2) ?_
  exact W.lret hC.2.1 hC.2.2.1 (hC.2.2.2.1.trans hr) (fun t ht _ => ⟨⟨_, M, rfl, hq, by rw [ht]; exact hH.1, hH.2.1⟩, hH.2.2.1.F ht⟩) hH.2.2.1.2.2 hd hC.2.2.2.2.2.2.1
theorem x_return (hd : decode Y.2.1 pc = .ok (.return_, 1)) (hr : Y.2.2.2 = none) (hq : Q none M) : XJ G d k Y M lv [] pc Q := by
  intro p e R s m args below meth c H locs cells slots A ls hC hH hl
  refine W.widen (k := R.cells) (n := R.slots) (Nat.le_trans (Nat.le_add_right _ _) hH.2.2.2.1) (Nat.le_trans (Nat.le_add_right _ _) hH.2.2.2.2) ?_
  exact W.vret hC.2.1 hC.2.2.1 (hC.2.2.2.1.trans hr) (fun t ht _ => ⟨⟨_, M, rfl, hq, by rw [ht]; exact hH.1, hH.2.1⟩, hH.2.2.1.F ht⟩) hH.2.2.1.2.2 hd hC.2.2.2.2.2.2.1
theorem x_areturn {ty : FieldType} {v : Value} (hd : decode Y.2.1 pc = .ok (.areturn, 1)) (hr : Y.2.2.2 = some ty) (hrt : (∃ n, ty = .object n) ∨ ∃ t, ty = .array t) (hv : v = .null ∨ ∃ a, v = .ref a) (hq : Q (some v) M) : XJ G d k Y M lv [v] pc Q := by
  intro p e R s m args below meth c H locs cells slots A ls hC hH hl
  refine W.widen (k := R.cells) (n := R.slots) (Nat.le_trans (Nat.le_add_right _ _) hH.2.2.2.1) (Nat.le_trans (Nat.le_add_right _ _) hH.2.2.2.2) ?_
  exact W.aret hC.2.1 hC.2.2.1 (hC.2.2.2.1.trans hr) hrt hv (fun t ht _ => ⟨⟨_, M, rfl, hq, by rw [ht]; exact hH.1, hH.2.1⟩, hH.2.2.1.F ht⟩) hH.2.2.1.2.2 hd hC.2.2.2.2.2.2.1
/-- fewer locals -/
theorem x_loc (l1 : Lv) (h : lle l1 lv) (kk : XJ G d k Y M l1 st pc Q) : XJ G d k Y M lv st pc Q :=
  fun p e R s m args below meth c H locs cells slots A ls hC hH hl => kk p e R s m args below meth c H locs cells slots A ls hC hH (lle_has h hl)
/-- fewer cells in sight -/
theorem x_mem {M1 : Mem} (h : ∀ a c, M1 a = some c → M a = some c) (kk : XJ G d k Y M1 lv st pc Q) : XJ G d k Y M lv st pc Q :=
  fun p e R s m args below meth c H locs cells slots A ls hC hH hl => kk p e R s m args below meth c H locs cells slots A ls hC ⟨fun a c z => hH.1 a c (h a c z), fun a c z => hH.2.1 a c (h a c z), hH.2.2⟩ hl
/-- less room -/
theorem x_room {k1 : Nat × Nat} (h1 : k1.1 ≤ k.1) (h2 : k1.2 ≤ k.2) (kk : XJ G d k1 Y M lv st pc Q) : XJ G d k Y M lv st pc Q :=
  fun p e R s m args below meth c H locs cells slots A ls hC hH hl => kk p e R s m args below meth c H locs cells slots A ls hC ⟨hH.1, hH.2.1, hH.2.2.1, Nat.le_trans (Nat.add_le_add_left h1 _) hH.2.2.2.1, Nat.le_trans (Nat.add_le_add_left h2 _) hH.2.2.2.2⟩ hl
end XE
/-! calls -/
def rpush (r : Option Value) (st : List Value) : List Value := match r with
  | none => st
  | some v => v :: st
theorem rpush_eq (r : Option Value) (st : List Value) : r.toList ++ st = rpush r st := by cases r <;> rfl
def catS : List Value → Nat
  | [] => 0
  | v :: t => v.category + catS t
theorem catS_le : ∀ {st : List Value}, (st.map fun v => v.category).sum = catS st
  | [] => rfl
  | v :: t => by rw [List.map_cons, List.sum_cons, catS_le]; rfl
theorem catS_8 {st : List Value} (h : Nat.ble (catS st) 8 = true) : (st.map fun v => v.category).sum ≤ 8 := by rw [catS_le]; exact Nat.le_of_ble_eq_true h
def LkC (Y2 : MR) (n : Nat) : Prop := Cond.code Y2.1 Y2.2.1 Y2.2.2.1 Y2.2.2.2 ∈ lw_tbl ∧ Cond.initialized Y2.1.cls ∈ lw_tbl ∧ (Y2.1.cls ≠ "java/lang/invoke/MethodHandle" ∧ Y2.1.cls ≠ "java/lang/invoke/VarHandle") ∧ (parseMethodDescriptor Y2.1.desc).map (fun d => d.parameters.length) = some n ∧ Y2.2.2.1 ≤ 45
def LkS (own : String) (idx : Nat) (Y2 : MR) (n : Nat) : Prop := LkC Y2 n ∧ Cond.static Y2.1 ∈ lw_tbl ∧ Cond.methodLink own idx Y2.1 ∈ lw_tbl
def LkV (own : String) (idx : Nat) (Y2 : MR) (n : Nat) : Prop := LkC Y2 n ∧ Cond.instanceMethod Y2.1 ∈ lw_tbl ∧ Cond.selects Y2.1.cls Y2.1 Y2.1 ∈ lw_tbl ∧ Cond.methodLink own idx Y2.1 ∈ lw_tbl
def LkI (own : String) (idx : Nat) (Y2 : MR) (n : Nat) : Prop := LkC Y2 n ∧ Cond.instanceMethod Y2.1 ∈ lw_tbl ∧ Y2.1.name = "<init>" ∧ Cond.methodLink own idx Y2.1 ∈ lw_tbl
def LkSN (own : String) (idx : Nat) (Y2 : MR) (n : Nat) : Prop := LkC Y2 n ∧ Cond.static Y2.1 ∈ lw_tbl ∧ ∃ host, Cond.methodLinkNest own idx Y2.1 host ∈ lw_tbl
def LkIN (own : String) (idx : Nat) (Y2 : MR) (n : Nat) : Prop := LkC Y2 n ∧ Cond.instanceMethod Y2.1 ∈ lw_tbl ∧ Y2.1.name = "<init>" ∧ ∃ host, Cond.methodLinkNest own idx Y2.1 host ∈ lw_tbl
theorem gw_code {y : MethodName} {b : ByteArray} {n : Nat} {r : Option FieldType} : goodWord (.code y b n r) = true := rfl
section XK
variable {G : Gam} {d : Nat} {k : Nat × Nat} {Y : MR} {M : Mem} {lv : Lv} {pc : Nat} {Q : Option Value → Mem → Prop} {rest : List Value} {mc ms : Nat}
theorem x_ofRun {st0 : List Value} {a : Array Value} {p : Program} {e : Env} {R : Room} {s : State} {m : MethodId} {args : Array Value} {below : List Frame} {meth : Method} {c : Code} {H : Heap} {locs : List Loc} {cells slots : Nat} {A : Nat → Prop} {ls : Array Slot}
    (hC : XC G d Y p R s m meth c A) (hH : XH G k M R s A H locs cells slots) (hl : lv_has ls Y.2.2.1 lv) (hk : mc ≤ k.1 ∧ ms ≤ k.2)
    (hr : va_Run p G.1 e R s m args below meth c H locs cells slots mc ms (F0 m pc ls st0) rest (QX G (AX M H.size) (fun r M' => XJ G d (k.1 - mc, k.2 - ms) Y M' lv (rpush r rest) (pc + 3) Q) a) (AX M H.size)) :
    W p G.1 e R s m args below meth c H locs cells slots (MQ below (QX G A Q) args s R.cells R.slots A) (F0 m pc ls st0) := by
  have hA : ∀ q, AX M H.size q → A q := fun q hq => by
    rcases hq with ⟨c, hc⟩ | hq
    · exact hH.2.1 q c hc
    · exact hC.2.2.2.2.2.2.2.2.2.2.2.1 q (Nat.le_trans hH.2.2.1.1 hq)
  intro T hT X
  obtain ⟨v, st₀, t, T', L, h0, X', hL, e1, e2, ⟨⟨r, M', hr, hq, hRel, hdom⟩, hF⟩, hgo⟩ := hr T hT X
  cases hr
  have hz : H.size ≤ T'.heap.size := by rw [e1, ← h0]; exact hF.1
  rw [← rpush_eq] at hq
  obtain ⟨t2, a1, b1⟩ := hq p e R s m args below meth c T'.heap (locs ++ L) (cells + mc) (slots + ms) A ls hC ⟨by rw [e1]; exact hRel, fun a c z => hA a (hdom a c z), ⟨Nat.le_trans hH.2.2.1.1 hz, fun q h1 h2 => by
      have h3 := hF.2 q (by rw [h0]; exact Nat.lt_of_lt_of_le h1 hH.2.2.1.1) (fun z => h2 (hA q z))
      rw [e1, h3, h0]
      exact hH.2.2.1.2.1 q h1 h2, fun q hq => by
      rcases List.mem_append.mp hq with h | h
      · exact hH.2.2.1.2.2 q h
      · exact hA _ (hL q h)⟩, (by have := hH.2.2.2.1; show cells + mc + (k.1 - mc) ≤ _; omega), (by have := hH.2.2.2.2; show slots + ms + (k.2 - ms) ≤ _; omega)⟩ hl T' rfl X'
  exact ⟨t2, hgo t2 a1, b1⟩
theorem x_pre {p : Program} {R : Room} {s : State} {m : MethodId} {meth : Method} {c : Code} {A : Nat → Prop} {H : Heap} {locs : List Loc} {cells slots : Nat} (hC : XC G d Y p R s m meth c A) (hH : XH G k M R s A H locs cells slots) (As : List Value) :
    PreS s H (va_Pc As (PX G M H.size)) As :=
  ⟨fun _ _ _ _ h => ⟨h.1, h.2⟩, fun U hU hW => ⟨rfl, hC.1, State.WarmedH.trans hC.2.2.2.2.2.2.2.2.1 hW, by rw [hU]; exact oldX hC.2.2.2.2.2.2.2.2.2.2.2.2.2 hH.2.2.1 hC.2.2.2.2.2.2.2.2.2.2.2.2.1, by rw [hU], by rw [hU]; exact hH.1⟩⟩
theorem x_ws {s : State} {Y2 : MR} {n : Nat} (hL : LkC Y2 n) (hB : BaseOK G) (hW : G.2.1.WarmedH s.vm) : ∀ w ∈ ([.code Y2.1 Y2.2.1 Y2.2.2.1 Y2.2.2.2] : List Cond), ∀ (a' : Array Value) (U : State), s.WarmedH U.vm → w.before a' U = true := by
  intro w hw a' U hU
  rw [List.mem_singleton.mp hw]
  exact tb_good hB hL.1 gw_code (State.WarmedH.trans hW hU)
theorem x_cb {p : Program} {R : Room} {s : State} {args : Array Value} {m : MethodId} {meth : Method} {c : Code} {A : Nat → Prop} {Y2 : MR} {n idx : Nat} (hC : XC G (d + 1) Y p R s m meth c A) (hL : LkC Y2 n) (hl : Cond.methodLink Y.1.cls idx Y2.1 ∈ lw_tbl) :
    CallB R s args Y.1.cls idx Y2.1 Y2.2.1 Y2.2.2.1 Y2.2.2.2 [.code Y2.1 Y2.2.1 Y2.2.2.1 Y2.2.2.2] (rmX d (mc, ms)) mc ms n := by
  obtain ⟨hB, -, -, -, -, -, -, -, hW, hfr, hlo, -⟩ := hC
  refine ⟨rfl, rfl, by rw [hfr]; exact Nat.le_refl _, ?_, x_ws hL hB hW, List.mem_singleton.mpr rfl, tb_good hB hL.1 gw_code hW, tb_good hB hL.2.1 rfl hW, hL.2.2.1, fun sig h => ?_, tb_good hB hl rfl hW⟩
  · rw [hlo]; have := hL.2.2.2.2; show 8 + (Y2.2.2.1 + 11) + 64 * d ≤ 64 * (d + 1); omega
  · have h2 := hL.2.2.2.1
    rw [h] at h2
    exact (Option.some.inj h2).symm
theorem x_cn {p : Program} {R : Room} {s : State} {args : Array Value} {m : MethodId} {meth : Method} {c : Code} {A : Nat → Prop} {Y2 : MR} {n idx : Nat} {host : String} (hC : XC G (d + 1) Y p R s m meth c A) (hL : LkC Y2 n) (hl : Cond.methodLinkNest Y.1.cls idx Y2.1 host ∈ lw_tbl) :
    va_CN R s args Y.1.cls idx Y2.1 host Y2.2.1 Y2.2.2.1 Y2.2.2.2 [.code Y2.1 Y2.2.1 Y2.2.2.1 Y2.2.2.2] (rmX d (mc, ms)) mc ms n := by
  obtain ⟨hB, -, -, -, -, -, -, -, hW, hfr, hlo, -⟩ := hC
  refine ⟨⟨rfl, rfl, by rw [hfr]; exact Nat.le_refl _, ?_, x_ws hL hB hW, List.mem_singleton.mpr rfl⟩, tb_good hB hL.1 gw_code hW, tb_good hB hL.2.1 rfl hW, hL.2.2.1, fun sig h => ?_, va_Nw.use rfl (tb_nestM hB hl hW)⟩
  · rw [hlo]; have := hL.2.2.2.2; show 8 + (Y2.2.2.1 + 11) + 64 * d ≤ 64 * (d + 1); omega
  · have h2 := hL.2.2.2.1
    rw [h] at h2
    exact (Option.some.inj h2).symm
theorem x_callS {Y2 : MR} {n idx : Nat} (As : List Value) (hd : decode Y.2.1 pc = .ok (.invokestatic idx, 3)) (hL : LkS Y.1.cls idx Y2 n) (hn : As.length = n) (hs : (rest.map fun v => v.category).sum ≤ 8) (hk : mc ≤ k.1 ∧ ms ≤ k.2) {st0 : List Value} (he : st0 = As.reverse ++ rest)
    (hM : CT G d (mc, ms) Y2 As M (fun r M' => XJ G (d + 1) (k.1 - mc, k.2 - ms) Y M' lv (rpush r rest) (pc + 3) Q)) : XJ G (d + 1) k Y M lv st0 pc Q := by
  intro p e R s m args below meth c H locs cells slots A ls hC hH hl
  refine x_ofRun (rest := rest) hC hH hl hk (a := As.toArray) ?_
  exact va_runS (As := As) (rest := rest) ⟨hC.2.1, hC.2.2.1, hC.2.2.2.2.1, hC.2.2.2.2.2.1, fun w hw => absurd hw List.not_mem_nil⟩ (Ts := []) (hM H.size) ⟨x_cb hC hL.1 hL.2.2, tb_good hC.1 hL.2.1 rfl hC.2.2.2.2.2.2.2.2.1⟩ (x_pre hC hH As) rfl hn hl.1 he (lv_room hs) hd ⟨Nat.le_trans (Nat.add_le_add_left hk.1 _) hH.2.2.2.1, Nat.le_trans (Nat.add_le_add_left hk.2 _) hH.2.2.2.2⟩
theorem x_callSN {Y2 : MR} {n idx : Nat} (As : List Value) (hd : decode Y.2.1 pc = .ok (.invokestatic idx, 3)) (hL : LkSN Y.1.cls idx Y2 n) (hn : As.length = n) (hs : (rest.map fun v => v.category).sum ≤ 8) (hk : mc ≤ k.1 ∧ ms ≤ k.2) {st0 : List Value} (he : st0 = As.reverse ++ rest)
    (hM : CT G d (mc, ms) Y2 As M (fun r M' => XJ G (d + 1) (k.1 - mc, k.2 - ms) Y M' lv (rpush r rest) (pc + 3) Q)) : XJ G (d + 1) k Y M lv st0 pc Q := by
  intro p e R s m args below meth c H locs cells slots A ls hC hH hl
  refine x_ofRun (rest := rest) hC hH hl hk (a := As.toArray) ?_
  obtain ⟨host, hh⟩ := hL.2.2
  exact va_runSN (As := As) (rest := rest) ⟨hC.2.1, hC.2.2.1, hC.2.2.2.2.1, hC.2.2.2.2.2.1, fun w hw => absurd hw List.not_mem_nil⟩ (Ts := []) (hM H.size) ⟨x_cn hC hL.1 hh, tb_good hC.1 hL.2.1 rfl hC.2.2.2.2.2.2.2.2.1, trivial⟩ (x_pre hC hH As) rfl hn hl.1 he (lv_room hs) hd ⟨Nat.le_trans (Nat.add_le_add_left hk.1 _) hH.2.2.2.1, Nat.le_trans (Nat.add_le_add_left hk.2 _) hH.2.2.2.2⟩
theorem cAt_recv {D : va_G} {tA : Nat → ClassId} {a ci n : Nat} {f : Nat → Value} {H : Heap} {s : State} {q : vw_C} (h : cAt D tA a (ci, n, f) H) (hq : vwCl[ci]? = some q) (hK : va_K D vwCl [] s) : ∃ cell : Cell, H[a]? = some cell ∧ cell.vm.isStatics = false ∧ s.vm.findClass q.1 = some cell.cls := by
  rcases h with ⟨-, q', h1, -, cell, g1, g2, g3, -⟩ | ⟨h1, -⟩
  · cases h1.symm.trans hq
    exact ⟨cell, g1, by rw [g3]; rfl, by rw [g2]; exact (hK.1 ci q hq).2.1⟩
  · have : ci < 14 := (List.getElem?_eq_some_iff.mp hq).1
    exact absurd h1 (by show ¬ 100 ≤ ci; omega)
theorem x_callV {Y2 : MR} {n idx ci sz b : Nat} {f : Nat → Value} {q : vw_C} (As : List Value) (hd : decode Y.2.1 pc = .ok (.invokevirtual idx, 3)) (hL : LkV Y.1.cls idx Y2 n) (hb : M b = some (ci, sz, f)) (hq : vwCl[ci]? = some q) (hqc : q.1 = Y2.1.cls) (hn : As.length = n) (hs : (rest.map fun v => v.category).sum ≤ 8) (hk : mc ≤ k.1 ∧ ms ≤ k.2) {st0 : List Value} (he : st0 = As.reverse ++ .ref b :: rest)
    (hM : CT G d (mc, ms) Y2 (.ref b :: As) M (fun r M' => XJ G (d + 1) (k.1 - mc, k.2 - ms) Y M' lv (rpush r rest) (pc + 3) Q)) : XJ G (d + 1) k Y M lv st0 pc Q := by
  intro p e R s m args below meth c H locs cells slots A ls hC hH hl
  have hW := hC.2.2.2.2.2.2.2.2.1
  refine x_ofRun (rest := rest) hC hH hl hk (a := (Value.ref b :: As).toArray) ?_
  have hp := x_pre hC hH (.ref b :: As)
  have hrc := cAt_recv (hH.1 b _ hb).2 hq (bs_K hC.1 hW)
  rw [hqc] at hrc
  exact va_runV (As := As) (rest := rest) (b := b) ⟨hC.2.1, hC.2.2.1, hC.2.2.2.2.1, hC.2.2.2.2.2.1, fun w hw => absurd hw List.not_mem_nil⟩ (Ts := []) (hM H.size) ⟨x_cb hC hL.1 hL.2.2.2, tb_good hC.1 hL.2.1 rfl hW, tb_good hC.1 hL.2.2.1 rfl hW⟩ ⟨hp.1, hrc, hp.2⟩ rfl hn hl.1 he (lv_room hs) hd ⟨Nat.le_trans (Nat.add_le_add_left hk.1 _) hH.2.2.2.1, Nat.le_trans (Nat.add_le_add_left hk.2 _) hH.2.2.2.2⟩
theorem x_callI {Y2 : MR} {n idx b : Nat} (As : List Value) (hd : decode Y.2.1 pc = .ok (.invokespecial idx, 3)) (hL : LkI Y.1.cls idx Y2 n) (hr : Y2.2.2.2 = none) (hn : As.length = n) (hs : (rest.map fun v => v.category).sum ≤ 8) (hk : mc ≤ k.1 ∧ ms ≤ k.2) {st0 : List Value} (he : st0 = As.reverse ++ .ref b :: rest)
    (hM : CT G d (mc, ms) Y2 (.ref b :: As) M (fun r M' => XJ G (d + 1) (k.1 - mc, k.2 - ms) Y M' lv (rpush r rest) (pc + 3) Q)) : XJ G (d + 1) k Y M lv st0 pc Q := by
  obtain ⟨y, cc, ml, rt⟩ := Y2
  cases hr
  intro p e R s m args below meth c H locs cells slots A ls hC hH hl
  have hW := hC.2.2.2.2.2.2.2.2.1
  refine x_ofRun (rest := rest) hC hH hl hk (a := (Value.ref b :: As).toArray) ?_
  exact va_runI (As := As) (rest := rest) (b := b) ⟨hC.2.1, hC.2.2.1, hC.2.2.2.2.1, hC.2.2.2.2.2.1, fun w hw => absurd hw List.not_mem_nil⟩ (Ts := []) (hM H.size) ⟨x_cb hC hL.1 hL.2.2.2, hL.2.2.1, tb_good hC.1 hL.2.1 rfl hW⟩ (x_pre hC hH (.ref b :: As)) rfl hn hl.1 he (lv_room hs) hd ⟨Nat.le_trans (Nat.add_le_add_left hk.1 _) hH.2.2.2.1, Nat.le_trans (Nat.add_le_add_left hk.2 _) hH.2.2.2.2⟩
theorem x_callIN {Y2 : MR} {n idx b : Nat} (As : List Value) (hd : decode Y.2.1 pc = .ok (.invokespecial idx, 3)) (hL : LkIN Y.1.cls idx Y2 n) (hr : Y2.2.2.2 = none) (hn : As.length = n) (hs : (rest.map fun v => v.category).sum ≤ 8) (hk : mc ≤ k.1 ∧ ms ≤ k.2) {st0 : List Value} (he : st0 = As.reverse ++ .ref b :: rest)
    (hM : CT G d (mc, ms) Y2 (.ref b :: As) M (fun r M' => XJ G (d + 1) (k.1 - mc, k.2 - ms) Y M' lv (rpush r rest) (pc + 3) Q)) : XJ G (d + 1) k Y M lv st0 pc Q := by
  obtain ⟨y, cc, ml, rt⟩ := Y2
  cases hr
  intro p e R s m args below meth c H locs cells slots A ls hC hH hl
  have hW := hC.2.2.2.2.2.2.2.2.1
  refine x_ofRun (rest := rest) hC hH hl hk (a := (Value.ref b :: As).toArray) ?_
  obtain ⟨host, hh⟩ := hL.2.2.2
  exact va_runIN (As := As) (rest := rest) (b := b) ⟨hC.2.1, hC.2.2.1, hC.2.2.2.2.1, hC.2.2.2.2.2.1, fun w hw => absurd hw List.not_mem_nil⟩ (Ts := []) (hM H.size) ⟨x_cn hC hL.1 hh, hL.2.2.1, tb_good hC.1 hL.2.1 rfl hW⟩ (x_pre hC hH (.ref b :: As)) rfl hn hl.1 he (lv_room hs) hd ⟨Nat.le_trans (Nat.add_le_add_left hk.1 _) hH.2.2.2.1, Nat.le_trans (Nat.add_le_add_left hk.2 _) hH.2.2.2.2⟩
end XK
/-- less is asked of the end -/
theorem CT.imp {G : Gam} {d : Nat} {k : Nat × Nat} {Y : MR} {av : List Value} {M : Mem} {Q Q' : Option Value → Mem → Prop} (h : CT G d k Y av M Q) (hq : ∀ r M', Q r M' → Q' r M') : CT G d k Y av M Q' := by
  intro sz
  refine MetFree.mono (h sz) (fun a s z => z) (fun _ _ _ _ _ z => z) (fun a s o t _ z => ?_)
  obtain ⟨⟨⟨r, M', h1, h2, h3⟩, h4⟩, h5⟩ := z
  exact ⟨⟨⟨r, M', h1, hq r M' h2, h3⟩, h4⟩, h5⟩
section XZ
variable {G : Gam} {d : Nat} {k : Nat × Nat} {Y : MR} {M : Mem} {lv : Lv} {pc : Nat} {Q : Option Value → Mem → Prop} {rest : List Value}
theorem x_cS0 {Y2 : MR} {idx : Nat} (hd : decode Y.2.1 pc = .ok (.invokestatic idx, 3)) (hL : LkS Y.1.cls idx Y2 0) (hs : Nat.ble (catS rest) 8 = true) (hM : CT G d (0, 0) Y2 [] M (fun r M' => XJ G (d + 1) k Y M' lv (rpush r rest) (pc + 3) Q)) : XJ G (d + 1) k Y M lv rest pc Q :=
  x_callS [] hd hL rfl (catS_8 hs) ⟨Nat.zero_le _, Nat.zero_le _⟩ rfl hM
theorem x_rS0 {Y2 : MR} {idx mc ms : Nat} (hd : decode Y.2.1 pc = .ok (.invokestatic idx, 3)) (hL : LkS Y.1.cls idx Y2 0) (hs : Nat.ble (catS rest) 8 = true) (hk : mc ≤ k.1 ∧ ms ≤ k.2) (hM : CT G d (mc, ms) Y2 [] M (fun r M' => XJ G (d + 1) (k.1 - mc, k.2 - ms) Y M' lv (rpush r rest) (pc + 3) Q)) : XJ G (d + 1) k Y M lv rest pc Q :=
  x_callS [] hd hL rfl (catS_8 hs) hk rfl hM
theorem x_cSN0 {Y2 : MR} {idx : Nat} (hd : decode Y.2.1 pc = .ok (.invokestatic idx, 3)) (hL : LkSN Y.1.cls idx Y2 0) (hs : Nat.ble (catS rest) 8 = true) (hM : CT G d (0, 0) Y2 [] M (fun r M' => XJ G (d + 1) k Y M' lv (rpush r rest) (pc + 3) Q)) : XJ G (d + 1) k Y M lv rest pc Q :=
  x_callSN [] hd hL rfl (catS_8 hs) ⟨Nat.zero_le _, Nat.zero_le _⟩ rfl hM
theorem x_rSN0 {Y2 : MR} {idx mc ms : Nat} (hd : decode Y.2.1 pc = .ok (.invokestatic idx, 3)) (hL : LkSN Y.1.cls idx Y2 0) (hs : Nat.ble (catS rest) 8 = true) (hk : mc ≤ k.1 ∧ ms ≤ k.2) (hM : CT G d (mc, ms) Y2 [] M (fun r M' => XJ G (d + 1) (k.1 - mc, k.2 - ms) Y M' lv (rpush r rest) (pc + 3) Q)) : XJ G (d + 1) k Y M lv rest pc Q :=
  x_callSN [] hd hL rfl (catS_8 hs) hk rfl hM
theorem x_cV0 {Y2 : MR} {idx : Nat} {b : Nat} {ci sz : Nat} {f : Nat → Value} {q : vw_C} (hd : decode Y.2.1 pc = .ok (.invokevirtual idx, 3)) (hL : LkV Y.1.cls idx Y2 0) (hb : M b = some (ci, sz, f)) (hq : vwCl[ci]? = some q) (hqc : q.1 = Y2.1.cls) (hs : Nat.ble (catS rest) 8 = true) (hM : CT G d (0, 0) Y2 (.ref b :: []) M (fun r M' => XJ G (d + 1) k Y M' lv (rpush r rest) (pc + 3) Q)) : XJ G (d + 1) k Y M lv (.ref b :: rest) pc Q :=
  x_callV [] hd hL hb hq hqc rfl (catS_8 hs) ⟨Nat.zero_le _, Nat.zero_le _⟩ rfl hM
theorem x_rV0 {Y2 : MR} {idx mc ms : Nat} {b : Nat} {ci sz : Nat} {f : Nat → Value} {q : vw_C} (hd : decode Y.2.1 pc = .ok (.invokevirtual idx, 3)) (hL : LkV Y.1.cls idx Y2 0) (hb : M b = some (ci, sz, f)) (hq : vwCl[ci]? = some q) (hqc : q.1 = Y2.1.cls) (hs : Nat.ble (catS rest) 8 = true) (hk : mc ≤ k.1 ∧ ms ≤ k.2) (hM : CT G d (mc, ms) Y2 (.ref b :: []) M (fun r M' => XJ G (d + 1) (k.1 - mc, k.2 - ms) Y M' lv (rpush r rest) (pc + 3) Q)) : XJ G (d + 1) k Y M lv (.ref b :: rest) pc Q :=
  x_callV [] hd hL hb hq hqc rfl (catS_8 hs) hk rfl hM
theorem x_cI0 {Y2 : MR} {idx : Nat} {b : Nat} (hd : decode Y.2.1 pc = .ok (.invokespecial idx, 3)) (hL : LkI Y.1.cls idx Y2 0) (hr : Y2.2.2.2 = none) (hs : Nat.ble (catS rest) 8 = true) (hM : CT G d (0, 0) Y2 (.ref b :: []) M (fun r M' => XJ G (d + 1) k Y M' lv (rpush r rest) (pc + 3) Q)) : XJ G (d + 1) k Y M lv (.ref b :: rest) pc Q :=
  x_callI [] hd hL hr rfl (catS_8 hs) ⟨Nat.zero_le _, Nat.zero_le _⟩ rfl hM
theorem x_rI0 {Y2 : MR} {idx mc ms : Nat} {b : Nat} (hd : decode Y.2.1 pc = .ok (.invokespecial idx, 3)) (hL : LkI Y.1.cls idx Y2 0) (hr : Y2.2.2.2 = none) (hs : Nat.ble (catS rest) 8 = true) (hk : mc ≤ k.1 ∧ ms ≤ k.2) (hM : CT G d (mc, ms) Y2 (.ref b :: []) M (fun r M' => XJ G (d + 1) (k.1 - mc, k.2 - ms) Y M' lv (rpush r rest) (pc + 3) Q)) : XJ G (d + 1) k Y M lv (.ref b :: rest) pc Q :=
  x_callI [] hd hL hr rfl (catS_8 hs) hk rfl hM
theorem x_cIN0 {Y2 : MR} {idx : Nat} {b : Nat} (hd : decode Y.2.1 pc = .ok (.invokespecial idx, 3)) (hL : LkIN Y.1.cls idx Y2 0) (hr : Y2.2.2.2 = none) (hs : Nat.ble (catS rest) 8 = true) (hM : CT G d (0, 0) Y2 (.ref b :: []) M (fun r M' => XJ G (d + 1) k Y M' lv (rpush r rest) (pc + 3) Q)) : XJ G (d + 1) k Y M lv (.ref b :: rest) pc Q :=
  x_callIN [] hd hL hr rfl (catS_8 hs) ⟨Nat.zero_le _, Nat.zero_le _⟩ rfl hM
theorem x_rIN0 {Y2 : MR} {idx mc ms : Nat} {b : Nat} (hd : decode Y.2.1 pc = .ok (.invokespecial idx, 3)) (hL : LkIN Y.1.cls idx Y2 0) (hr : Y2.2.2.2 = none) (hs : Nat.ble (catS rest) 8 = true) (hk : mc ≤ k.1 ∧ ms ≤ k.2) (hM : CT G d (mc, ms) Y2 (.ref b :: []) M (fun r M' => XJ G (d + 1) (k.1 - mc, k.2 - ms) Y M' lv (rpush r rest) (pc + 3) Q)) : XJ G (d + 1) k Y M lv (.ref b :: rest) pc Q :=
  x_callIN [] hd hL hr rfl (catS_8 hs) hk rfl hM
theorem x_cS1 {Y2 : MR} {idx : Nat} {a1 : Value} (hd : decode Y.2.1 pc = .ok (.invokestatic idx, 3)) (hL : LkS Y.1.cls idx Y2 1) (hs : Nat.ble (catS rest) 8 = true) (hM : CT G d (0, 0) Y2 [a1] M (fun r M' => XJ G (d + 1) k Y M' lv (rpush r rest) (pc + 3) Q)) : XJ G (d + 1) k Y M lv (a1 :: rest) pc Q :=
  x_callS [a1] hd hL rfl (catS_8 hs) ⟨Nat.zero_le _, Nat.zero_le _⟩ rfl hM
theorem x_rS1 {Y2 : MR} {idx mc ms : Nat} {a1 : Value} (hd : decode Y.2.1 pc = .ok (.invokestatic idx, 3)) (hL : LkS Y.1.cls idx Y2 1) (hs : Nat.ble (catS rest) 8 = true) (hk : mc ≤ k.1 ∧ ms ≤ k.2) (hM : CT G d (mc, ms) Y2 [a1] M (fun r M' => XJ G (d + 1) (k.1 - mc, k.2 - ms) Y M' lv (rpush r rest) (pc + 3) Q)) : XJ G (d + 1) k Y M lv (a1 :: rest) pc Q :=
  x_callS [a1] hd hL rfl (catS_8 hs) hk rfl hM
theorem x_cSN1 {Y2 : MR} {idx : Nat} {a1 : Value} (hd : decode Y.2.1 pc = .ok (.invokestatic idx, 3)) (hL : LkSN Y.1.cls idx Y2 1) (hs : Nat.ble (catS rest) 8 = true) (hM : CT G d (0, 0) Y2 [a1] M (fun r M' => XJ G (d + 1) k Y M' lv (rpush r rest) (pc + 3) Q)) : XJ G (d + 1) k Y M lv (a1 :: rest) pc Q :=
  x_callSN [a1] hd hL rfl (catS_8 hs) ⟨Nat.zero_le _, Nat.zero_le _⟩ rfl hM
theorem x_rSN1 {Y2 : MR} {idx mc ms : Nat} {a1 : Value} (hd : decode Y.2.1 pc = .ok (.invokestatic idx, 3)) (hL : LkSN Y.1.cls idx Y2 1) (hs : Nat.ble (catS rest) 8 = true) (hk : mc ≤ k.1 ∧ ms ≤ k.2) (hM : CT G d (mc, ms) Y2 [a1] M (fun r M' => XJ G (d + 1) (k.1 - mc, k.2 - ms) Y M' lv (rpush r rest) (pc + 3) Q)) : XJ G (d + 1) k Y M lv (a1 :: rest) pc Q :=
  x_callSN [a1] hd hL rfl (catS_8 hs) hk rfl hM
theorem x_cV1 {Y2 : MR} {idx : Nat} {a1 : Value} {b : Nat} {ci sz : Nat} {f : Nat → Value} {q : vw_C} (hd : decode Y.2.1 pc = .ok (.invokevirtual idx, 3)) (hL : LkV Y.1.cls idx Y2 1) (hb : M b = some (ci, sz, f)) (hq : vwCl[ci]? = some q) (hqc : q.1 = Y2.1.cls) (hs : Nat.ble (catS rest) 8 = true) (hM : CT G d (0, 0) Y2 (.ref b :: [a1]) M (fun r M' => XJ G (d + 1) k Y M' lv (rpush r rest) (pc + 3) Q)) : XJ G (d + 1) k Y M lv (a1 :: .ref b :: rest) pc Q :=
  x_callV [a1] hd hL hb hq hqc rfl (catS_8 hs) ⟨Nat.zero_le _, Nat.zero_le _⟩ rfl hM
theorem x_rV1 {Y2 : MR} {idx mc ms : Nat} {a1 : Value} {b : Nat} {ci sz : Nat} {f : Nat → Value} {q : vw_C} (hd : decode Y.2.1 pc = .ok (.invokevirtual idx, 3)) (hL : LkV Y.1.cls idx Y2 1) (hb : M b = some (ci, sz, f)) (hq : vwCl[ci]? = some q) (hqc : q.1 = Y2.1.cls) (hs : Nat.ble (catS rest) 8 = true) (hk : mc ≤ k.1 ∧ ms ≤ k.2) (hM : CT G d (mc, ms) Y2 (.ref b :: [a1]) M (fun r M' => XJ G (d + 1) (k.1 - mc, k.2 - ms) Y M' lv (rpush r rest) (pc + 3) Q)) : XJ G (d + 1) k Y M lv (a1 :: .ref b :: rest) pc Q :=
  x_callV [a1] hd hL hb hq hqc rfl (catS_8 hs) hk rfl hM
theorem x_cI1 {Y2 : MR} {idx : Nat} {a1 : Value} {b : Nat} (hd : decode Y.2.1 pc = .ok (.invokespecial idx, 3)) (hL : LkI Y.1.cls idx Y2 1) (hr : Y2.2.2.2 = none) (hs : Nat.ble (catS rest) 8 = true) (hM : CT G d (0, 0) Y2 (.ref b :: [a1]) M (fun r M' => XJ G (d + 1) k Y M' lv (rpush r rest) (pc + 3) Q)) : XJ G (d + 1) k Y M lv (a1 :: .ref b :: rest) pc Q :=
  x_callI [a1] hd hL hr rfl (catS_8 hs) ⟨Nat.zero_le _, Nat.zero_le _⟩ rfl hM
theorem x_rI1 {Y2 : MR} {idx mc ms : Nat} {a1 : Value} {b : Nat} (hd : decode Y.2.1 pc = .ok (.invokespecial idx, 3)) (hL : LkI Y.1.cls idx Y2 1) (hr : Y2.2.2.2 = none) (hs : Nat.ble (catS rest) 8 = true) (hk : mc ≤ k.1 ∧ ms ≤ k.2) (hM : CT G d (mc, ms) Y2 (.ref b :: [a1]) M (fun r M' => XJ G (d + 1) (k.1 - mc, k.2 - ms) Y M' lv (rpush r rest) (pc + 3) Q)) : XJ G (d + 1) k Y M lv (a1 :: .ref b :: rest) pc Q :=
  x_callI [a1] hd hL hr rfl (catS_8 hs) hk rfl hM
theorem x_cIN1 {Y2 : MR} {idx : Nat} {a1 : Value} {b : Nat} (hd : decode Y.2.1 pc = .ok (.invokespecial idx, 3)) (hL : LkIN Y.1.cls idx Y2 1) (hr : Y2.2.2.2 = none) (hs : Nat.ble (catS rest) 8 = true) (hM : CT G d (0, 0) Y2 (.ref b :: [a1]) M (fun r M' => XJ G (d + 1) k Y M' lv (rpush r rest) (pc + 3) Q)) : XJ G (d + 1) k Y M lv (a1 :: .ref b :: rest) pc Q :=
  x_callIN [a1] hd hL hr rfl (catS_8 hs) ⟨Nat.zero_le _, Nat.zero_le _⟩ rfl hM
theorem x_rIN1 {Y2 : MR} {idx mc ms : Nat} {a1 : Value} {b : Nat} (hd : decode Y.2.1 pc = .ok (.invokespecial idx, 3)) (hL : LkIN Y.1.cls idx Y2 1) (hr : Y2.2.2.2 = none) (hs : Nat.ble (catS rest) 8 = true) (hk : mc ≤ k.1 ∧ ms ≤ k.2) (hM : CT G d (mc, ms) Y2 (.ref b :: [a1]) M (fun r M' => XJ G (d + 1) (k.1 - mc, k.2 - ms) Y M' lv (rpush r rest) (pc + 3) Q)) : XJ G (d + 1) k Y M lv (a1 :: .ref b :: rest) pc Q :=
  x_callIN [a1] hd hL hr rfl (catS_8 hs) hk rfl hM
theorem x_cS2 {Y2 : MR} {idx : Nat} {a1 a2 : Value} (hd : decode Y.2.1 pc = .ok (.invokestatic idx, 3)) (hL : LkS Y.1.cls idx Y2 2) (hs : Nat.ble (catS rest) 8 = true) (hM : CT G d (0, 0) Y2 [a1, a2] M (fun r M' => XJ G (d + 1) k Y M' lv (rpush r rest) (pc + 3) Q)) : XJ G (d + 1) k Y M lv (a2 :: a1 :: rest) pc Q :=
  x_callS [a1, a2] hd hL rfl (catS_8 hs) ⟨Nat.zero_le _, Nat.zero_le _⟩ rfl hM
theorem x_rS2 {Y2 : MR} {idx mc ms : Nat} {a1 a2 : Value} (hd : decode Y.2.1 pc = .ok (.invokestatic idx, 3)) (hL : LkS Y.1.cls idx Y2 2) (hs : Nat.ble (catS rest) 8 = true) (hk : mc ≤ k.1 ∧ ms ≤ k.2) (hM : CT G d (mc, ms) Y2 [a1, a2] M (fun r M' => XJ G (d + 1) (k.1 - mc, k.2 - ms) Y M' lv (rpush r rest) (pc + 3) Q)) : XJ G (d + 1) k Y M lv (a2 :: a1 :: rest) pc Q :=
  x_callS [a1, a2] hd hL rfl (catS_8 hs) hk rfl hM
theorem x_cSN2 {Y2 : MR} {idx : Nat} {a1 a2 : Value} (hd : decode Y.2.1 pc = .ok (.invokestatic idx, 3)) (hL : LkSN Y.1.cls idx Y2 2) (hs : Nat.ble (catS rest) 8 = true) (hM : CT G d (0, 0) Y2 [a1, a2] M (fun r M' => XJ G (d + 1) k Y M' lv (rpush r rest) (pc + 3) Q)) : XJ G (d + 1) k Y M lv (a2 :: a1 :: rest) pc Q :=
  x_callSN [a1, a2] hd hL rfl (catS_8 hs) ⟨Nat.zero_le _, Nat.zero_le _⟩ rfl hM
theorem x_rSN2 {Y2 : MR} {idx mc ms : Nat} {a1 a2 : Value} (hd : decode Y.2.1 pc = .ok (.invokestatic idx, 3)) (hL : LkSN Y.1.cls idx Y2 2) (hs : Nat.ble (catS rest) 8 = true) (hk : mc ≤ k.1 ∧ ms ≤ k.2) (hM : CT G d (mc, ms) Y2 [a1, a2] M (fun r M' => XJ G (d + 1) (k.1 - mc, k.2 - ms) Y M' lv (rpush r rest) (pc + 3) Q)) : XJ G (d + 1) k Y M lv (a2 :: a1 :: rest) pc Q :=
  x_callSN [a1, a2] hd hL rfl (catS_8 hs) hk rfl hM
theorem x_cV2 {Y2 : MR} {idx : Nat} {a1 a2 : Value} {b : Nat} {ci sz : Nat} {f : Nat → Value} {q : vw_C} (hd : decode Y.2.1 pc = .ok (.invokevirtual idx, 3)) (hL : LkV Y.1.cls idx Y2 2) (hb : M b = some (ci, sz, f)) (hq : vwCl[ci]? = some q) (hqc : q.1 = Y2.1.cls) (hs : Nat.ble (catS rest) 8 = true) (hM : CT G d (0, 0) Y2 (.ref b :: [a1, a2]) M (fun r M' => XJ G (d + 1) k Y M' lv (rpush r rest) (pc + 3) Q)) : XJ G (d + 1) k Y M lv (a2 :: a1 :: .ref b :: rest) pc Q :=
  x_callV [a1, a2] hd hL hb hq hqc rfl (catS_8 hs) ⟨Nat.zero_le _, Nat.zero_le _⟩ rfl hM
theorem x_rV2 {Y2 : MR} {idx mc ms : Nat} {a1 a2 : Value} {b : Nat} {ci sz : Nat} {f : Nat → Value} {q : vw_C} (hd : decode Y.2.1 pc = .ok (.invokevirtual idx, 3)) (hL : LkV Y.1.cls idx Y2 2) (hb : M b = some (ci, sz, f)) (hq : vwCl[ci]? = some q) (hqc : q.1 = Y2.1.cls) (hs : Nat.ble (catS rest) 8 = true) (hk : mc ≤ k.1 ∧ ms ≤ k.2) (hM : CT G d (mc, ms) Y2 (.ref b :: [a1, a2]) M (fun r M' => XJ G (d + 1) (k.1 - mc, k.2 - ms) Y M' lv (rpush r rest) (pc + 3) Q)) : XJ G (d + 1) k Y M lv (a2 :: a1 :: .ref b :: rest) pc Q :=
  x_callV [a1, a2] hd hL hb hq hqc rfl (catS_8 hs) hk rfl hM
theorem x_cI2 {Y2 : MR} {idx : Nat} {a1 a2 : Value} {b : Nat} (hd : decode Y.2.1 pc = .ok (.invokespecial idx, 3)) (hL : LkI Y.1.cls idx Y2 2) (hr : Y2.2.2.2 = none) (hs : Nat.ble (catS rest) 8 = true) (hM : CT G d (0, 0) Y2 (.ref b :: [a1, a2]) M (fun r M' => XJ G (d + 1) k Y M' lv (rpush r rest) (pc + 3) Q)) : XJ G (d + 1) k Y M lv (a2 :: a1 :: .ref b :: rest) pc Q :=
  x_callI [a1, a2] hd hL hr rfl (catS_8 hs) ⟨Nat.zero_le _, Nat.zero_le _⟩ rfl hM
theorem x_rI2 {Y2 : MR} {idx mc ms : Nat} {a1 a2 : Value} {b : Nat} (hd : decode Y.2.1 pc = .ok (.invokespecial idx, 3)) (hL : LkI Y.1.cls idx Y2 2) (hr : Y2.2.2.2 = none) (hs : Nat.ble (catS rest) 8 = true) (hk : mc ≤ k.1 ∧ ms ≤ k.2) (hM : CT G d (mc, ms) Y2 (.ref b :: [a1, a2]) M (fun r M' => XJ G (d + 1) (k.1 - mc, k.2 - ms) Y M' lv (rpush r rest) (pc + 3) Q)) : XJ G (d + 1) k Y M lv (a2 :: a1 :: .ref b :: rest) pc Q :=
  x_callI [a1, a2] hd hL hr rfl (catS_8 hs) hk rfl hM
theorem x_cIN2 {Y2 : MR} {idx : Nat} {a1 a2 : Value} {b : Nat} (hd : decode Y.2.1 pc = .ok (.invokespecial idx, 3)) (hL : LkIN Y.1.cls idx Y2 2) (hr : Y2.2.2.2 = none) (hs : Nat.ble (catS rest) 8 = true) (hM : CT G d (0, 0) Y2 (.ref b :: [a1, a2]) M (fun r M' => XJ G (d + 1) k Y M' lv (rpush r rest) (pc + 3) Q)) : XJ G (d + 1) k Y M lv (a2 :: a1 :: .ref b :: rest) pc Q :=
  x_callIN [a1, a2] hd hL hr rfl (catS_8 hs) ⟨Nat.zero_le _, Nat.zero_le _⟩ rfl hM
theorem x_rIN2 {Y2 : MR} {idx mc ms : Nat} {a1 a2 : Value} {b : Nat} (hd : decode Y.2.1 pc = .ok (.invokespecial idx, 3)) (hL : LkIN Y.1.cls idx Y2 2) (hr : Y2.2.2.2 = none) (hs : Nat.ble (catS rest) 8 = true) (hk : mc ≤ k.1 ∧ ms ≤ k.2) (hM : CT G d (mc, ms) Y2 (.ref b :: [a1, a2]) M (fun r M' => XJ G (d + 1) (k.1 - mc, k.2 - ms) Y M' lv (rpush r rest) (pc + 3) Q)) : XJ G (d + 1) k Y M lv (a2 :: a1 :: .ref b :: rest) pc Q :=
  x_callIN [a1, a2] hd hL hr rfl (catS_8 hs) hk rfl hM
theorem x_cS3 {Y2 : MR} {idx : Nat} {a1 a2 a3 : Value} (hd : decode Y.2.1 pc = .ok (.invokestatic idx, 3)) (hL : LkS Y.1.cls idx Y2 3) (hs : Nat.ble (catS rest) 8 = true) (hM : CT G d (0, 0) Y2 [a1, a2, a3] M (fun r M' => XJ G (d + 1) k Y M' lv (rpush r rest) (pc + 3) Q)) : XJ G (d + 1) k Y M lv (a3 :: a2 :: a1 :: rest) pc Q :=
  x_callS [a1, a2, a3] hd hL rfl (catS_8 hs) ⟨Nat.zero_le _, Nat.zero_le _⟩ rfl hM
theorem x_rS3 {Y2 : MR} {idx mc ms : Nat} {a1 a2 a3 : Value} (hd : decode Y.2.1 pc = .ok (.invokestatic idx, 3)) (hL : LkS Y.1.cls idx Y2 3) (hs : Nat.ble (catS rest) 8 = true) (hk : mc ≤ k.1 ∧ ms ≤ k.2) (hM : CT G d (mc, ms) Y2 [a1, a2, a3] M (fun r M' => XJ G (d + 1) (k.1 - mc, k.2 - ms) Y M' lv (rpush r rest) (pc + 3) Q)) : XJ G (d + 1) k Y M lv (a3 :: a2 :: a1 :: rest) pc Q :=
  x_callS [a1, a2, a3] hd hL rfl (catS_8 hs) hk rfl hM
theorem x_cSN3 {Y2 : MR} {idx : Nat} {a1 a2 a3 : Value} (hd : decode Y.2.1 pc = .ok (.invokestatic idx, 3)) (hL : LkSN Y.1.cls idx Y2 3) (hs : Nat.ble (catS rest) 8 = true) (hM : CT G d (0, 0) Y2 [a1, a2, a3] M (fun r M' => XJ G (d + 1) k Y M' lv (rpush r rest) (pc + 3) Q)) : XJ G (d + 1) k Y M lv (a3 :: a2 :: a1 :: rest) pc Q :=
  x_callSN [a1, a2, a3] hd hL rfl (catS_8 hs) ⟨Nat.zero_le _, Nat.zero_le _⟩ rfl hM
theorem x_rSN3 {Y2 : MR} {idx mc ms : Nat} {a1 a2 a3 : Value} (hd : decode Y.2.1 pc = .ok (.invokestatic idx, 3)) (hL : LkSN Y.1.cls idx Y2 3) (hs : Nat.ble (catS rest) 8 = true) (hk : mc ≤ k.1 ∧ ms ≤ k.2) (hM : CT G d (mc, ms) Y2 [a1, a2, a3] M (fun r M' => XJ G (d + 1) (k.1 - mc, k.2 - ms) Y M' lv (rpush r rest) (pc + 3) Q)) : XJ G (d + 1) k Y M lv (a3 :: a2 :: a1 :: rest) pc Q :=
  x_callSN [a1, a2, a3] hd hL rfl (catS_8 hs) hk rfl hM
theorem x_cV3 {Y2 : MR} {idx : Nat} {a1 a2 a3 : Value} {b : Nat} {ci sz : Nat} {f : Nat → Value} {q : vw_C} (hd : decode Y.2.1 pc = .ok (.invokevirtual idx, 3)) (hL : LkV Y.1.cls idx Y2 3) (hb : M b = some (ci, sz, f)) (hq : vwCl[ci]? = some q) (hqc : q.1 = Y2.1.cls) (hs : Nat.ble (catS rest) 8 = true) (hM : CT G d (0, 0) Y2 (.ref b :: [a1, a2, a3]) M (fun r M' => XJ G (d + 1) k Y M' lv (rpush r rest) (pc + 3) Q)) : XJ G (d + 1) k Y M lv (a3 :: a2 :: a1 :: .ref b :: rest) pc Q :=
  x_callV [a1, a2, a3] hd hL hb hq hqc rfl (catS_8 hs) ⟨Nat.zero_le _, Nat.zero_le _⟩ rfl hM
theorem x_rV3 {Y2 : MR} {idx mc ms : Nat} {a1 a2 a3 : Value} {b : Nat} {ci sz : Nat} {f : Nat → Value} {q : vw_C} (hd : decode Y.2.1 pc = .ok (.invokevirtual idx, 3)) (hL : LkV Y.1.cls idx Y2 3) (hb : M b = some (ci, sz, f)) (hq : vwCl[ci]? = some q) (hqc : q.1 = Y2.1.cls) (hs : Nat.ble (catS rest) 8 = true) (hk : mc ≤ k.1 ∧ ms ≤ k.2) (hM : CT G d (mc, ms) Y2 (.ref b :: [a1, a2, a3]) M (fun r M' => XJ G (d + 1) (k.1 - mc, k.2 - ms) Y M' lv (rpush r rest) (pc + 3) Q)) : XJ G (d + 1) k Y M lv (a3 :: a2 :: a1 :: .ref b :: rest) pc Q :=
  x_callV [a1, a2, a3] hd hL hb hq hqc rfl (catS_8 hs) hk rfl hM
theorem x_cI3 {Y2 : MR} {idx : Nat} {a1 a2 a3 : Value} {b : Nat} (hd : decode Y.2.1 pc = .ok (.invokespecial idx, 3)) (hL : LkI Y.1.cls idx Y2 3) (hr : Y2.2.2.2 = none) (hs : Nat.ble (catS rest) 8 = true) (hM : CT G d (0, 0) Y2 (.ref b :: [a1, a2, a3]) M (fun r M' => XJ G (d + 1) k Y M' lv (rpush r rest) (pc + 3) Q)) : XJ G (d + 1) k Y M lv (a3 :: a2 :: a1 :: .ref b :: rest) pc Q :=
  x_callI [a1, a2, a3] hd hL hr rfl (catS_8 hs) ⟨Nat.zero_le _, Nat.zero_le _⟩ rfl hM
theorem x_rI3 {Y2 : MR} {idx mc ms : Nat} {a1 a2 a3 : Value} {b : Nat} (hd : decode Y.2.1 pc = .ok (.invokespecial idx, 3)) (hL : LkI Y.1.cls idx Y2 3) (hr : Y2.2.2.2 = none) (hs : Nat.ble (catS rest) 8 = true) (hk : mc ≤ k.1 ∧ ms ≤ k.2) (hM : CT G d (mc, ms) Y2 (.ref b :: [a1, a2, a3]) M (fun r M' => XJ G (d + 1) (k.1 - mc, k.2 - ms) Y M' lv (rpush r rest) (pc + 3) Q)) : XJ G (d + 1) k Y M lv (a3 :: a2 :: a1 :: .ref b :: rest) pc Q :=
  x_callI [a1, a2, a3] hd hL hr rfl (catS_8 hs) hk rfl hM
theorem x_cIN3 {Y2 : MR} {idx : Nat} {a1 a2 a3 : Value} {b : Nat} (hd : decode Y.2.1 pc = .ok (.invokespecial idx, 3)) (hL : LkIN Y.1.cls idx Y2 3) (hr : Y2.2.2.2 = none) (hs : Nat.ble (catS rest) 8 = true) (hM : CT G d (0, 0) Y2 (.ref b :: [a1, a2, a3]) M (fun r M' => XJ G (d + 1) k Y M' lv (rpush r rest) (pc + 3) Q)) : XJ G (d + 1) k Y M lv (a3 :: a2 :: a1 :: .ref b :: rest) pc Q :=
  x_callIN [a1, a2, a3] hd hL hr rfl (catS_8 hs) ⟨Nat.zero_le _, Nat.zero_le _⟩ rfl hM
theorem x_rIN3 {Y2 : MR} {idx mc ms : Nat} {a1 a2 a3 : Value} {b : Nat} (hd : decode Y.2.1 pc = .ok (.invokespecial idx, 3)) (hL : LkIN Y.1.cls idx Y2 3) (hr : Y2.2.2.2 = none) (hs : Nat.ble (catS rest) 8 = true) (hk : mc ≤ k.1 ∧ ms ≤ k.2) (hM : CT G d (mc, ms) Y2 (.ref b :: [a1, a2, a3]) M (fun r M' => XJ G (d + 1) (k.1 - mc, k.2 - ms) Y M' lv (rpush r rest) (pc + 3) Q)) : XJ G (d + 1) k Y M lv (a3 :: a2 :: a1 :: .ref b :: rest) pc Q :=
  x_callIN [a1, a2, a3] hd hL hr rfl (catS_8 hs) hk rfl hM
theorem x_cS4 {Y2 : MR} {idx : Nat} {a1 a2 a3 a4 : Value} (hd : decode Y.2.1 pc = .ok (.invokestatic idx, 3)) (hL : LkS Y.1.cls idx Y2 4) (hs : Nat.ble (catS rest) 8 = true) (hM : CT G d (0, 0) Y2 [a1, a2, a3, a4] M (fun r M' => XJ G (d + 1) k Y M' lv (rpush r rest) (pc + 3) Q)) : XJ G (d + 1) k Y M lv (a4 :: a3 :: a2 :: a1 :: rest) pc Q :=
  x_callS [a1, a2, a3, a4] hd hL rfl (catS_8 hs) ⟨Nat.zero_le _, Nat.zero_le _⟩ rfl hM
theorem x_rS4 {Y2 : MR} {idx mc ms : Nat} {a1 a2 a3 a4 : Value} (hd : decode Y.2.1 pc = .ok (.invokestatic idx, 3)) (hL : LkS Y.1.cls idx Y2 4) (hs : Nat.ble (catS rest) 8 = true) (hk : mc ≤ k.1 ∧ ms ≤ k.2) (hM : CT G d (mc, ms) Y2 [a1, a2, a3, a4] M (fun r M' => XJ G (d + 1) (k.1 - mc, k.2 - ms) Y M' lv (rpush r rest) (pc + 3) Q)) : XJ G (d + 1) k Y M lv (a4 :: a3 :: a2 :: a1 :: rest) pc Q :=
  x_callS [a1, a2, a3, a4] hd hL rfl (catS_8 hs) hk rfl hM
theorem x_cSN4 {Y2 : MR} {idx : Nat} {a1 a2 a3 a4 : Value} (hd : decode Y.2.1 pc = .ok (.invokestatic idx, 3)) (hL : LkSN Y.1.cls idx Y2 4) (hs : Nat.ble (catS rest) 8 = true) (hM : CT G d (0, 0) Y2 [a1, a2, a3, a4] M (fun r M' => XJ G (d + 1) k Y M' lv (rpush r rest) (pc + 3) Q)) : XJ G (d + 1) k Y M lv (a4 :: a3 :: a2 :: a1 :: rest) pc Q :=
  x_callSN [a1, a2, a3, a4] hd hL rfl (catS_8 hs) ⟨Nat.zero_le _, Nat.zero_le _⟩ rfl hM
theorem x_rSN4 {Y2 : MR} {idx mc ms : Nat} {a1 a2 a3 a4 : Value} (hd : decode Y.2.1 pc = .ok (.invokestatic idx, 3)) (hL : LkSN Y.1.cls idx Y2 4) (hs : Nat.ble (catS rest) 8 = true) (hk : mc ≤ k.1 ∧ ms ≤ k.2) (hM : CT G d (mc, ms) Y2 [a1, a2, a3, a4] M (fun r M' => XJ G (d + 1) (k.1 - mc, k.2 - ms) Y M' lv (rpush r rest) (pc + 3) Q)) : XJ G (d + 1) k Y M lv (a4 :: a3 :: a2 :: a1 :: rest) pc Q :=
  x_callSN [a1, a2, a3, a4] hd hL rfl (catS_8 hs) hk rfl hM
theorem x_cV4 {Y2 : MR} {idx : Nat} {a1 a2 a3 a4 : Value} {b : Nat} {ci sz : Nat} {f : Nat → Value} {q : vw_C} (hd : decode Y.2.1 pc = .ok (.invokevirtual idx, 3)) (hL : LkV Y.1.cls idx Y2 4) (hb : M b = some (ci, sz, f)) (hq : vwCl[ci]? = some q) (hqc : q.1 = Y2.1.cls) (hs : Nat.ble (catS rest) 8 = true) (hM : CT G d (0, 0) Y2 (.ref b :: [a1, a2, a3, a4]) M (fun r M' => XJ G (d + 1) k Y M' lv (rpush r rest) (pc + 3) Q)) : XJ G (d + 1) k Y M lv (a4 :: a3 :: a2 :: a1 :: .ref b :: rest) pc Q :=
  x_callV [a1, a2, a3, a4] hd hL hb hq hqc rfl (catS_8 hs) ⟨Nat.zero_le _, Nat.zero_le _⟩ rfl hM
theorem x_rV4 {Y2 : MR} {idx mc ms : Nat} {a1 a2 a3 a4 : Value} {b : Nat} {ci sz : Nat} {f : Nat → Value} {q : vw_C} (hd : decode Y.2.1 pc = .ok (.invokevirtual idx, 3)) (hL : LkV Y.1.cls idx Y2 4) (hb : M b = some (ci, sz, f)) (hq : vwCl[ci]? = some q) (hqc : q.1 = Y2.1.cls) (hs : Nat.ble (catS rest) 8 = true) (hk : mc ≤ k.1 ∧ ms ≤ k.2) (hM : CT G d (mc, ms) Y2 (.ref b :: [a1, a2, a3, a4]) M (fun r M' => XJ G (d + 1) (k.1 - mc, k.2 - ms) Y M' lv (rpush r rest) (pc + 3) Q)) : XJ G (d + 1) k Y M lv (a4 :: a3 :: a2 :: a1 :: .ref b :: rest) pc Q :=
  x_callV [a1, a2, a3, a4] hd hL hb hq hqc rfl (catS_8 hs) hk rfl hM
theorem x_cI4 {Y2 : MR} {idx : Nat} {a1 a2 a3 a4 : Value} {b : Nat} (hd : decode Y.2.1 pc = .ok (.invokespecial idx, 3)) (hL : LkI Y.1.cls idx Y2 4) (hr : Y2.2.2.2 = none) (hs : Nat.ble (catS rest) 8 = true) (hM : CT G d (0, 0) Y2 (.ref b :: [a1, a2, a3, a4]) M (fun r M' => XJ G (d + 1) k Y M' lv (rpush r rest) (pc + 3) Q)) : XJ G (d + 1) k Y M lv (a4 :: a3 :: a2 :: a1 :: .ref b :: rest) pc Q :=
  x_callI [a1, a2, a3, a4] hd hL hr rfl (catS_8 hs) ⟨Nat.zero_le _, Nat.zero_le _⟩ rfl hM
theorem x_rI4 {Y2 : MR} {idx mc ms : Nat} {a1 a2 a3 a4 : Value} {b : Nat} (hd : decode Y.2.1 pc = .ok (.invokespecial idx, 3)) (hL : LkI Y.1.cls idx Y2 4) (hr : Y2.2.2.2 = none) (hs : Nat.ble (catS rest) 8 = true) (hk : mc ≤ k.1 ∧ ms ≤ k.2) (hM : CT G d (mc, ms) Y2 (.ref b :: [a1, a2, a3, a4]) M (fun r M' => XJ G (d + 1) (k.1 - mc, k.2 - ms) Y M' lv (rpush r rest) (pc + 3) Q)) : XJ G (d + 1) k Y M lv (a4 :: a3 :: a2 :: a1 :: .ref b :: rest) pc Q :=
  x_callI [a1, a2, a3, a4] hd hL hr rfl (catS_8 hs) hk rfl hM
theorem x_cIN4 {Y2 : MR} {idx : Nat} {a1 a2 a3 a4 : Value} {b : Nat} (hd : decode Y.2.1 pc = .ok (.invokespecial idx, 3)) (hL : LkIN Y.1.cls idx Y2 4) (hr : Y2.2.2.2 = none) (hs : Nat.ble (catS rest) 8 = true) (hM : CT G d (0, 0) Y2 (.ref b :: [a1, a2, a3, a4]) M (fun r M' => XJ G (d + 1) k Y M' lv (rpush r rest) (pc + 3) Q)) : XJ G (d + 1) k Y M lv (a4 :: a3 :: a2 :: a1 :: .ref b :: rest) pc Q :=
  x_callIN [a1, a2, a3, a4] hd hL hr rfl (catS_8 hs) ⟨Nat.zero_le _, Nat.zero_le _⟩ rfl hM
theorem x_rIN4 {Y2 : MR} {idx mc ms : Nat} {a1 a2 a3 a4 : Value} {b : Nat} (hd : decode Y.2.1 pc = .ok (.invokespecial idx, 3)) (hL : LkIN Y.1.cls idx Y2 4) (hr : Y2.2.2.2 = none) (hs : Nat.ble (catS rest) 8 = true) (hk : mc ≤ k.1 ∧ ms ≤ k.2) (hM : CT G d (mc, ms) Y2 (.ref b :: [a1, a2, a3, a4]) M (fun r M' => XJ G (d + 1) (k.1 - mc, k.2 - ms) Y M' lv (rpush r rest) (pc + 3) Q)) : XJ G (d + 1) k Y M lv (a4 :: a3 :: a2 :: a1 :: .ref b :: rest) pc Q :=
  x_callIN [a1, a2, a3, a4] hd hL hr rfl (catS_8 hs) hk rfl hM
theorem x_cS5 {Y2 : MR} {idx : Nat} {a1 a2 a3 a4 a5 : Value} (hd : decode Y.2.1 pc = .ok (.invokestatic idx, 3)) (hL : LkS Y.1.cls idx Y2 5) (hs : Nat.ble (catS rest) 8 = true) (hM : CT G d (0, 0) Y2 [a1, a2, a3, a4, a5] M (fun r M' => XJ G (d + 1) k Y M' lv (rpush r rest) (pc + 3) Q)) : XJ G (d + 1) k Y M lv (a5 :: a4 :: a3 :: a2 :: a1 :: rest) pc Q :=
  x_callS [a1, a2, a3, a4, a5] hd hL rfl (catS_8 hs) ⟨Nat.zero_le _, Nat.zero_le _⟩ rfl hM
theorem x_rS5 {Y2 : MR} {idx mc ms : Nat} {a1 a2 a3 a4 a5 : Value} (hd : decode Y.2.1 pc = .ok (.invokestatic idx, 3)) (hL : LkS Y.1.cls idx Y2 5) (hs : Nat.ble (catS rest) 8 = true) (hk : mc ≤ k.1 ∧ ms ≤ k.2) (hM : CT G d (mc, ms) Y2 [a1, a2, a3, a4, a5] M (fun r M' => XJ G (d + 1) (k.1 - mc, k.2 - ms) Y M' lv (rpush r rest) (pc + 3) Q)) : XJ G (d + 1) k Y M lv (a5 :: a4 :: a3 :: a2 :: a1 :: rest) pc Q :=
  x_callS [a1, a2, a3, a4, a5] hd hL rfl (catS_8 hs) hk rfl hM
theorem x_cSN5 {Y2 : MR} {idx : Nat} {a1 a2 a3 a4 a5 : Value} (hd : decode Y.2.1 pc = .ok (.invokestatic idx, 3)) (hL : LkSN Y.1.cls idx Y2 5) (hs : Nat.ble (catS rest) 8 = true) (hM : CT G d (0, 0) Y2 [a1, a2, a3, a4, a5] M (fun r M' => XJ G (d + 1) k Y M' lv (rpush r rest) (pc + 3) Q)) : XJ G (d + 1) k Y M lv (a5 :: a4 :: a3 :: a2 :: a1 :: rest) pc Q :=
  x_callSN [a1, a2, a3, a4, a5] hd hL rfl (catS_8 hs) ⟨Nat.zero_le _, Nat.zero_le _⟩ rfl hM
theorem x_rSN5 {Y2 : MR} {idx mc ms : Nat} {a1 a2 a3 a4 a5 : Value} (hd : decode Y.2.1 pc = .ok (.invokestatic idx, 3)) (hL : LkSN Y.1.cls idx Y2 5) (hs : Nat.ble (catS rest) 8 = true) (hk : mc ≤ k.1 ∧ ms ≤ k.2) (hM : CT G d (mc, ms) Y2 [a1, a2, a3, a4, a5] M (fun r M' => XJ G (d + 1) (k.1 - mc, k.2 - ms) Y M' lv (rpush r rest) (pc + 3) Q)) : XJ G (d + 1) k Y M lv (a5 :: a4 :: a3 :: a2 :: a1 :: rest) pc Q :=
  x_callSN [a1, a2, a3, a4, a5] hd hL rfl (catS_8 hs) hk rfl hM
theorem x_cV5 {Y2 : MR} {idx : Nat} {a1 a2 a3 a4 a5 : Value} {b : Nat} {ci sz : Nat} {f : Nat → Value} {q : vw_C} (hd : decode Y.2.1 pc = .ok (.invokevirtual idx, 3)) (hL : LkV Y.1.cls idx Y2 5) (hb : M b = some (ci, sz, f)) (hq : vwCl[ci]? = some q) (hqc : q.1 = Y2.1.cls) (hs : Nat.ble (catS rest) 8 = true) (hM : CT G d (0, 0) Y2 (.ref b :: [a1, a2, a3, a4, a5]) M (fun r M' => XJ G (d + 1) k Y M' lv (rpush r rest) (pc + 3) Q)) : XJ G (d + 1) k Y M lv (a5 :: a4 :: a3 :: a2 :: a1 :: .ref b :: rest) pc Q :=
  x_callV [a1, a2, a3, a4, a5] hd hL hb hq hqc rfl (catS_8 hs) ⟨Nat.zero_le _, Nat.zero_le _⟩ rfl hM
theorem x_rV5 {Y2 : MR} {idx mc ms : Nat} {a1 a2 a3 a4 a5 : Value} {b : Nat} {ci sz : Nat} {f : Nat → Value} {q : vw_C} (hd : decode Y.2.1 pc = .ok (.invokevirtual idx, 3)) (hL : LkV Y.1.cls idx Y2 5) (hb : M b = some (ci, sz, f)) (hq : vwCl[ci]? = some q) (hqc : q.1 = Y2.1.cls) (hs : Nat.ble (catS rest) 8 = true) (hk : mc ≤ k.1 ∧ ms ≤ k.2) (hM : CT G d (mc, ms) Y2 (.ref b :: [a1, a2, a3, a4, a5]) M (fun r M' => XJ G (d + 1) (k.1 - mc, k.2 - ms) Y M' lv (rpush r rest) (pc + 3) Q)) : XJ G (d + 1) k Y M lv (a5 :: a4 :: a3 :: a2 :: a1 :: .ref b :: rest) pc Q :=
  x_callV [a1, a2, a3, a4, a5] hd hL hb hq hqc rfl (catS_8 hs) hk rfl hM
theorem x_cI5 {Y2 : MR} {idx : Nat} {a1 a2 a3 a4 a5 : Value} {b : Nat} (hd : decode Y.2.1 pc = .ok (.invokespecial idx, 3)) (hL : LkI Y.1.cls idx Y2 5) (hr : Y2.2.2.2 = none) (hs : Nat.ble (catS rest) 8 = true) (hM : CT G d (0, 0) Y2 (.ref b :: [a1, a2, a3, a4, a5]) M (fun r M' => XJ G (d + 1) k Y M' lv (rpush r rest) (pc + 3) Q)) : XJ G (d + 1) k Y M lv (a5 :: a4 :: a3 :: a2 :: a1 :: .ref b :: rest) pc Q :=
  x_callI [a1, a2, a3, a4, a5] hd hL hr rfl (catS_8 hs) ⟨Nat.zero_le _, Nat.zero_le _⟩ rfl hM
theorem x_rI5 {Y2 : MR} {idx mc ms : Nat} {a1 a2 a3 a4 a5 : Value} {b : Nat} (hd : decode Y.2.1 pc = .ok (.invokespecial idx, 3)) (hL : LkI Y.1.cls idx Y2 5) (hr : Y2.2.2.2 = none) (hs : Nat.ble (catS rest) 8 = true) (hk : mc ≤ k.1 ∧ ms ≤ k.2) (hM : CT G d (mc, ms) Y2 (.ref b :: [a1, a2, a3, a4, a5]) M (fun r M' => XJ G (d + 1) (k.1 - mc, k.2 - ms) Y M' lv (rpush r rest) (pc + 3) Q)) : XJ G (d + 1) k Y M lv (a5 :: a4 :: a3 :: a2 :: a1 :: .ref b :: rest) pc Q :=
  x_callI [a1, a2, a3, a4, a5] hd hL hr rfl (catS_8 hs) hk rfl hM
theorem x_cIN5 {Y2 : MR} {idx : Nat} {a1 a2 a3 a4 a5 : Value} {b : Nat} (hd : decode Y.2.1 pc = .ok (.invokespecial idx, 3)) (hL : LkIN Y.1.cls idx Y2 5) (hr : Y2.2.2.2 = none) (hs : Nat.ble (catS rest) 8 = true) (hM : CT G d (0, 0) Y2 (.ref b :: [a1, a2, a3, a4, a5]) M (fun r M' => XJ G (d + 1) k Y M' lv (rpush r rest) (pc + 3) Q)) : XJ G (d + 1) k Y M lv (a5 :: a4 :: a3 :: a2 :: a1 :: .ref b :: rest) pc Q :=
  x_callIN [a1, a2, a3, a4, a5] hd hL hr rfl (catS_8 hs) ⟨Nat.zero_le _, Nat.zero_le _⟩ rfl hM
theorem x_rIN5 {Y2 : MR} {idx mc ms : Nat} {a1 a2 a3 a4 a5 : Value} {b : Nat} (hd : decode Y.2.1 pc = .ok (.invokespecial idx, 3)) (hL : LkIN Y.1.cls idx Y2 5) (hr : Y2.2.2.2 = none) (hs : Nat.ble (catS rest) 8 = true) (hk : mc ≤ k.1 ∧ ms ≤ k.2) (hM : CT G d (mc, ms) Y2 (.ref b :: [a1, a2, a3, a4, a5]) M (fun r M' => XJ G (d + 1) (k.1 - mc, k.2 - ms) Y M' lv (rpush r rest) (pc + 3) Q)) : XJ G (d + 1) k Y M lv (a5 :: a4 :: a3 :: a2 :: a1 :: .ref b :: rest) pc Q :=
  x_callIN [a1, a2, a3, a4, a5] hd hL hr rfl (catS_8 hs) hk rfl hM
theorem x_cS6 {Y2 : MR} {idx : Nat} {a1 a2 a3 a4 a5 a6 : Value} (hd : decode Y.2.1 pc = .ok (.invokestatic idx, 3)) (hL : LkS Y.1.cls idx Y2 6) (hs : Nat.ble (catS rest) 8 = true) (hM : CT G d (0, 0) Y2 [a1, a2, a3, a4, a5, a6] M (fun r M' => XJ G (d + 1) k Y M' lv (rpush r rest) (pc + 3) Q)) : XJ G (d + 1) k Y M lv (a6 :: a5 :: a4 :: a3 :: a2 :: a1 :: rest) pc Q :=
  x_callS [a1, a2, a3, a4, a5, a6] hd hL rfl (catS_8 hs) ⟨Nat.zero_le _, Nat.zero_le _⟩ rfl hM
theorem x_rS6 {Y2 : MR} {idx mc ms : Nat} {a1 a2 a3 a4 a5 a6 : Value} (hd : decode Y.2.1 pc = .ok (.invokestatic idx, 3)) (hL : LkS Y.1.cls idx Y2 6) (hs : Nat.ble (catS rest) 8 = true) (hk : mc ≤ k.1 ∧ ms ≤ k.2) (hM : CT G d (mc, ms) Y2 [a1, a2, a3, a4, a5, a6] M (fun r M' => XJ G (d + 1) (k.1 - mc, k.2 - ms) Y M' lv (rpush r rest) (pc + 3) Q)) : XJ G (d + 1) k Y M lv (a6 :: a5 :: a4 :: a3 :: a2 :: a1 :: rest) pc Q :=
  x_callS [a1, a2, a3, a4, a5, a6] hd hL rfl (catS_8 hs) hk rfl hM
theorem x_cSN6 {Y2 : MR} {idx : Nat} {a1 a2 a3 a4 a5 a6 : Value} (hd : decode Y.2.1 pc = .ok (.invokestatic idx, 3)) (hL : LkSN Y.1.cls idx Y2 6) (hs : Nat.ble (catS rest) 8 = true) (hM : CT G d (0, 0) Y2 [a1, a2, a3, a4, a5, a6] M (fun r M' => XJ G (d + 1) k Y M' lv (rpush r rest) (pc + 3) Q)) : XJ G (d + 1) k Y M lv (a6 :: a5 :: a4 :: a3 :: a2 :: a1 :: rest) pc Q :=
  x_callSN [a1, a2, a3, a4, a5, a6] hd hL rfl (catS_8 hs) ⟨Nat.zero_le _, Nat.zero_le _⟩ rfl hM
theorem x_rSN6 {Y2 : MR} {idx mc ms : Nat} {a1 a2 a3 a4 a5 a6 : Value} (hd : decode Y.2.1 pc = .ok (.invokestatic idx, 3)) (hL : LkSN Y.1.cls idx Y2 6) (hs : Nat.ble (catS rest) 8 = true) (hk : mc ≤ k.1 ∧ ms ≤ k.2) (hM : CT G d (mc, ms) Y2 [a1, a2, a3, a4, a5, a6] M (fun r M' => XJ G (d + 1) (k.1 - mc, k.2 - ms) Y M' lv (rpush r rest) (pc + 3) Q)) : XJ G (d + 1) k Y M lv (a6 :: a5 :: a4 :: a3 :: a2 :: a1 :: rest) pc Q :=
  x_callSN [a1, a2, a3, a4, a5, a6] hd hL rfl (catS_8 hs) hk rfl hM
theorem x_cV6 {Y2 : MR} {idx : Nat} {a1 a2 a3 a4 a5 a6 : Value} {b : Nat} {ci sz : Nat} {f : Nat → Value} {q : vw_C} (hd : decode Y.2.1 pc = .ok (.invokevirtual idx, 3)) (hL : LkV Y.1.cls idx Y2 6) (hb : M b = some (ci, sz, f)) (hq : vwCl[ci]? = some q) (hqc : q.1 = Y2.1.cls) (hs : Nat.ble (catS rest) 8 = true) (hM : CT G d (0, 0) Y2 (.ref b :: [a1, a2, a3, a4, a5, a6]) M (fun r M' => XJ G (d + 1) k Y M' lv (rpush r rest) (pc + 3) Q)) : XJ G (d + 1) k Y M lv (a6 :: a5 :: a4 :: a3 :: a2 :: a1 :: .ref b :: rest) pc Q :=
  x_callV [a1, a2, a3, a4, a5, a6] hd hL hb hq hqc rfl (catS_8 hs) ⟨Nat.zero_le _, Nat.zero_le _⟩ rfl hM
theorem x_rV6 {Y2 : MR} {idx mc ms : Nat} {a1 a2 a3 a4 a5 a6 : Value} {b : Nat} {ci sz : Nat} {f : Nat → Value} {q : vw_C} (hd : decode Y.2.1 pc = .ok (.invokevirtual idx, 3)) (hL : LkV Y.1.cls idx Y2 6) (hb : M b = some (ci, sz, f)) (hq : vwCl[ci]? = some q) (hqc : q.1 = Y2.1.cls) (hs : Nat.ble (catS rest) 8 = true) (hk : mc ≤ k.1 ∧ ms ≤ k.2) (hM : CT G d (mc, ms) Y2 (.ref b :: [a1, a2, a3, a4, a5, a6]) M (fun r M' => XJ G (d + 1) (k.1 - mc, k.2 - ms) Y M' lv (rpush r rest) (pc + 3) Q)) : XJ G (d + 1) k Y M lv (a6 :: a5 :: a4 :: a3 :: a2 :: a1 :: .ref b :: rest) pc Q :=
  x_callV [a1, a2, a3, a4, a5, a6] hd hL hb hq hqc rfl (catS_8 hs) hk rfl hM
theorem x_cI6 {Y2 : MR} {idx : Nat} {a1 a2 a3 a4 a5 a6 : Value} {b : Nat} (hd : decode Y.2.1 pc = .ok (.invokespecial idx, 3)) (hL : LkI Y.1.cls idx Y2 6) (hr : Y2.2.2.2 = none) (hs : Nat.ble (catS rest) 8 = true) (hM : CT G d (0, 0) Y2 (.ref b :: [a1, a2, a3, a4, a5, a6]) M (fun r M' => XJ G (d + 1) k Y M' lv (rpush r rest) (pc + 3) Q)) : XJ G (d + 1) k Y M lv (a6 :: a5 :: a4 :: a3 :: a2 :: a1 :: .ref b :: rest) pc Q :=
  x_callI [a1, a2, a3, a4, a5, a6] hd hL hr rfl (catS_8 hs) ⟨Nat.zero_le _, Nat.zero_le _⟩ rfl hM
theorem x_rI6 {Y2 : MR} {idx mc ms : Nat} {a1 a2 a3 a4 a5 a6 : Value} {b : Nat} (hd : decode Y.2.1 pc = .ok (.invokespecial idx, 3)) (hL : LkI Y.1.cls idx Y2 6) (hr : Y2.2.2.2 = none) (hs : Nat.ble (catS rest) 8 = true) (hk : mc ≤ k.1 ∧ ms ≤ k.2) (hM : CT G d (mc, ms) Y2 (.ref b :: [a1, a2, a3, a4, a5, a6]) M (fun r M' => XJ G (d + 1) (k.1 - mc, k.2 - ms) Y M' lv (rpush r rest) (pc + 3) Q)) : XJ G (d + 1) k Y M lv (a6 :: a5 :: a4 :: a3 :: a2 :: a1 :: .ref b :: rest) pc Q :=
  x_callI [a1, a2, a3, a4, a5, a6] hd hL hr rfl (catS_8 hs) hk rfl hM
theorem x_cIN6 {Y2 : MR} {idx : Nat} {a1 a2 a3 a4 a5 a6 : Value} {b : Nat} (hd : decode Y.2.1 pc = .ok (.invokespecial idx, 3)) (hL : LkIN Y.1.cls idx Y2 6) (hr : Y2.2.2.2 = none) (hs : Nat.ble (catS rest) 8 = true) (hM : CT G d (0, 0) Y2 (.ref b :: [a1, a2, a3, a4, a5, a6]) M (fun r M' => XJ G (d + 1) k Y M' lv (rpush r rest) (pc + 3) Q)) : XJ G (d + 1) k Y M lv (a6 :: a5 :: a4 :: a3 :: a2 :: a1 :: .ref b :: rest) pc Q :=
  x_callIN [a1, a2, a3, a4, a5, a6] hd hL hr rfl (catS_8 hs) ⟨Nat.zero_le _, Nat.zero_le _⟩ rfl hM
theorem x_rIN6 {Y2 : MR} {idx mc ms : Nat} {a1 a2 a3 a4 a5 a6 : Value} {b : Nat} (hd : decode Y.2.1 pc = .ok (.invokespecial idx, 3)) (hL : LkIN Y.1.cls idx Y2 6) (hr : Y2.2.2.2 = none) (hs : Nat.ble (catS rest) 8 = true) (hk : mc ≤ k.1 ∧ ms ≤ k.2) (hM : CT G d (mc, ms) Y2 (.ref b :: [a1, a2, a3, a4, a5, a6]) M (fun r M' => XJ G (d + 1) (k.1 - mc, k.2 - ms) Y M' lv (rpush r rest) (pc + 3) Q)) : XJ G (d + 1) k Y M lv (a6 :: a5 :: a4 :: a3 :: a2 :: a1 :: .ref b :: rest) pc Q :=
  x_callIN [a1, a2, a3, a4, a5, a6] hd hL hr rfl (catS_8 hs) hk rfl hM
theorem x_cS7 {Y2 : MR} {idx : Nat} {a1 a2 a3 a4 a5 a6 a7 : Value} (hd : decode Y.2.1 pc = .ok (.invokestatic idx, 3)) (hL : LkS Y.1.cls idx Y2 7) (hs : Nat.ble (catS rest) 8 = true) (hM : CT G d (0, 0) Y2 [a1, a2, a3, a4, a5, a6, a7] M (fun r M' => XJ G (d + 1) k Y M' lv (rpush r rest) (pc + 3) Q)) : XJ G (d + 1) k Y M lv (a7 :: a6 :: a5 :: a4 :: a3 :: a2 :: a1 :: rest) pc Q :=
  x_callS [a1, a2, a3, a4, a5, a6, a7] hd hL rfl (catS_8 hs) ⟨Nat.zero_le _, Nat.zero_le _⟩ rfl hM
theorem x_rS7 {Y2 : MR} {idx mc ms : Nat} {a1 a2 a3 a4 a5 a6 a7 : Value} (hd : decode Y.2.1 pc = .ok (.invokestatic idx, 3)) (hL : LkS Y.1.cls idx Y2 7) (hs : Nat.ble (catS rest) 8 = true) (hk : mc ≤ k.1 ∧ ms ≤ k.2) (hM : CT G d (mc, ms) Y2 [a1, a2, a3, a4, a5, a6, a7] M (fun r M' => XJ G (d + 1) (k.1 - mc, k.2 - ms) Y M' lv (rpush r rest) (pc + 3) Q)) : XJ G (d + 1) k Y M lv (a7 :: a6 :: a5 :: a4 :: a3 :: a2 :: a1 :: rest) pc Q :=
  x_callS [a1, a2, a3, a4, a5, a6, a7] hd hL rfl (catS_8 hs) hk rfl hM
theorem x_cSN7 {Y2 : MR} {idx : Nat} {a1 a2 a3 a4 a5 a6 a7 : Value} (hd : decode Y.2.1 pc = .ok (.invokestatic idx, 3)) (hL : LkSN Y.1.cls idx Y2 7) (hs : Nat.ble (catS rest) 8 = true) (hM : CT G d (0, 0) Y2 [a1, a2, a3, a4, a5, a6, a7] M (fun r M' => XJ G (d + 1) k Y M' lv (rpush r rest) (pc + 3) Q)) : XJ G (d + 1) k Y M lv (a7 :: a6 :: a5 :: a4 :: a3 :: a2 :: a1 :: rest) pc Q :=
  x_callSN [a1, a2, a3, a4, a5, a6, a7] hd hL rfl (catS_8 hs) ⟨Nat.zero_le _, Nat.zero_le _⟩ rfl hM
theorem x_rSN7 {Y2 : MR} {idx mc ms : Nat} {a1 a2 a3 a4 a5 a6 a7 : Value} (hd : decode Y.2.1 pc = .ok (.invokestatic idx, 3)) (hL : LkSN Y.1.cls idx Y2 7) (hs : Nat.ble (catS rest) 8 = true) (hk : mc ≤ k.1 ∧ ms ≤ k.2) (hM : CT G d (mc, ms) Y2 [a1, a2, a3, a4, a5, a6, a7] M (fun r M' => XJ G (d + 1) (k.1 - mc, k.2 - ms) Y M' lv (rpush r rest) (pc + 3) Q)) : XJ G (d + 1) k Y M lv (a7 :: a6 :: a5 :: a4 :: a3 :: a2 :: a1 :: rest) pc Q :=
  x_callSN [a1, a2, a3, a4, a5, a6, a7] hd hL rfl (catS_8 hs) hk rfl hM
theorem x_cV7 {Y2 : MR} {idx : Nat} {a1 a2 a3 a4 a5 a6 a7 : Value} {b : Nat} {ci sz : Nat} {f : Nat → Value} {q : vw_C} (hd : decode Y.2.1 pc = .ok (.invokevirtual idx, 3)) (hL : LkV Y.1.cls idx Y2 7) (hb : M b = some (ci, sz, f)) (hq : vwCl[ci]? = some q) (hqc : q.1 = Y2.1.cls) (hs : Nat.ble (catS rest) 8 = true) (hM : CT G d (0, 0) Y2 (.ref b :: [a1, a2, a3, a4, a5, a6, a7]) M (fun r M' => XJ G (d + 1) k Y M' lv (rpush r rest) (pc + 3) Q)) : XJ G (d + 1) k Y M lv (a7 :: a6 :: a5 :: a4 :: a3 :: a2 :: a1 :: .ref b :: rest) pc Q :=
  x_callV [a1, a2, a3, a4, a5, a6, a7] hd hL hb hq hqc rfl (catS_8 hs) ⟨Nat.zero_le _, Nat.zero_le _⟩ rfl hM
theorem x_rV7 {Y2 : MR} {idx mc ms : Nat} {a1 a2 a3 a4 a5 a6 a7 : Value} {b : Nat} {ci sz : Nat} {f : Nat → Value} {q : vw_C} (hd : decode Y.2.1 pc = .ok (.invokevirtual idx, 3)) (hL : LkV Y.1.cls idx Y2 7) (hb : M b = some (ci, sz, f)) (hq : vwCl[ci]? = some q) (hqc : q.1 = Y2.1.cls) (hs : Nat.ble (catS rest) 8 = true) (hk : mc ≤ k.1 ∧ ms ≤ k.2) (hM : CT G d (mc, ms) Y2 (.ref b :: [a1, a2, a3, a4, a5, a6, a7]) M (fun r M' => XJ G (d + 1) (k.1 - mc, k.2 - ms) Y M' lv (rpush r rest) (pc + 3) Q)) : XJ G (d + 1) k Y M lv (a7 :: a6 :: a5 :: a4 :: a3 :: a2 :: a1 :: .ref b :: rest) pc Q :=
  x_callV [a1, a2, a3, a4, a5, a6, a7] hd hL hb hq hqc rfl (catS_8 hs) hk rfl hM
theorem x_cI7 {Y2 : MR} {idx : Nat} {a1 a2 a3 a4 a5 a6 a7 : Value} {b : Nat} (hd : decode Y.2.1 pc = .ok (.invokespecial idx, 3)) (hL : LkI Y.1.cls idx Y2 7) (hr : Y2.2.2.2 = none) (hs : Nat.ble (catS rest) 8 = true) (hM : CT G d (0, 0) Y2 (.ref b :: [a1, a2, a3, a4, a5, a6, a7]) M (fun r M' => XJ G (d + 1) k Y M' lv (rpush r rest) (pc + 3) Q)) : XJ G (d + 1) k Y M lv (a7 :: a6 :: a5 :: a4 :: a3 :: a2 :: a1 :: .ref b :: rest) pc Q :=
  x_callI [a1, a2, a3, a4, a5, a6, a7] hd hL hr rfl (catS_8 hs) ⟨Nat.zero_le _, Nat.zero_le _⟩ rfl hM
theorem x_rI7 {Y2 : MR} {idx mc ms : Nat} {a1 a2 a3 a4 a5 a6 a7 : Value} {b : Nat} (hd : decode Y.2.1 pc = .ok (.invokespecial idx, 3)) (hL : LkI Y.1.cls idx Y2 7) (hr : Y2.2.2.2 = none) (hs : Nat.ble (catS rest) 8 = true) (hk : mc ≤ k.1 ∧ ms ≤ k.2) (hM : CT G d (mc, ms) Y2 (.ref b :: [a1, a2, a3, a4, a5, a6, a7]) M (fun r M' => XJ G (d + 1) (k.1 - mc, k.2 - ms) Y M' lv (rpush r rest) (pc + 3) Q)) : XJ G (d + 1) k Y M lv (a7 :: a6 :: a5 :: a4 :: a3 :: a2 :: a1 :: .ref b :: rest) pc Q :=
  x_callI [a1, a2, a3, a4, a5, a6, a7] hd hL hr rfl (catS_8 hs) hk rfl hM
theorem x_cIN7 {Y2 : MR} {idx : Nat} {a1 a2 a3 a4 a5 a6 a7 : Value} {b : Nat} (hd : decode Y.2.1 pc = .ok (.invokespecial idx, 3)) (hL : LkIN Y.1.cls idx Y2 7) (hr : Y2.2.2.2 = none) (hs : Nat.ble (catS rest) 8 = true) (hM : CT G d (0, 0) Y2 (.ref b :: [a1, a2, a3, a4, a5, a6, a7]) M (fun r M' => XJ G (d + 1) k Y M' lv (rpush r rest) (pc + 3) Q)) : XJ G (d + 1) k Y M lv (a7 :: a6 :: a5 :: a4 :: a3 :: a2 :: a1 :: .ref b :: rest) pc Q :=
  x_callIN [a1, a2, a3, a4, a5, a6, a7] hd hL hr rfl (catS_8 hs) ⟨Nat.zero_le _, Nat.zero_le _⟩ rfl hM
theorem x_rIN7 {Y2 : MR} {idx mc ms : Nat} {a1 a2 a3 a4 a5 a6 a7 : Value} {b : Nat} (hd : decode Y.2.1 pc = .ok (.invokespecial idx, 3)) (hL : LkIN Y.1.cls idx Y2 7) (hr : Y2.2.2.2 = none) (hs : Nat.ble (catS rest) 8 = true) (hk : mc ≤ k.1 ∧ ms ≤ k.2) (hM : CT G d (mc, ms) Y2 (.ref b :: [a1, a2, a3, a4, a5, a6, a7]) M (fun r M' => XJ G (d + 1) (k.1 - mc, k.2 - ms) Y M' lv (rpush r rest) (pc + 3) Q)) : XJ G (d + 1) k Y M lv (a7 :: a6 :: a5 :: a4 :: a3 :: a2 :: a1 :: .ref b :: rest) pc Q :=
  x_callIN [a1, a2, a3, a4, a5, a6, a7] hd hL hr rfl (catS_8 hs) hk rfl hM
end XZ
