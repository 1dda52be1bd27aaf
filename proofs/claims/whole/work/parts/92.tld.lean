/-! told: it returns or throws; the law's own told, which catches -/
theorem tb22 : (Cond.initialized "java/util/NoSuchElementException") ∈ lw_tbl := tb_r (List.mem_of_getElem? (i := 22) (by decide +kernel))
theorem tb1106 : (Cond.static ({ cls := "DiaryHouseLaw", name := "told", desc := "(LDiaryHouse;II[J)I" } : MethodName)) ∈ lw_tbl := tb_r (List.mem_of_getElem? (i := 1106) (by decide +kernel))
theorem tb1107 : (Cond.codeWith ({ cls := "DiaryHouseLaw", name := "told", desc := "(LDiaryHouse;II[J)I" } : MethodName) method_3_code (5 : Nat) (Option.some FieldType.int) [((0 : Nat), (10 : Nat), (13 : Nat), (13 : Nat))]) ∈ lw_tbl := tb_r (List.mem_of_getElem? (i := 1107) (by decide +kernel))
theorem tb1108 : (Cond.classLink "DiaryHouseLaw" (13 : Nat) "java/util/NoSuchElementException") ∈ lw_tbl := tb_r (List.mem_of_getElem? (i := 1108) (by decide +kernel))
theorem tb1115 : (Cond.castable "java/util/NoSuchElementException" "java/util/NoSuchElementException") ∈ lw_tbl := tb_r (List.mem_of_getElem? (i := 1115) (by decide +kernel))
theorem tb1117 : (Cond.declares ({ cls := "java/lang/RuntimeException", name := "<init>", desc := "(Ljava/lang/String;)V" } : MethodName)) ∈ lw_tbl := tb_r (List.mem_of_getElem? (i := 1117) (by decide +kernel))
theorem tb1119 : (Cond.declares ({ cls := "java/lang/Exception", name := "<init>", desc := "(Ljava/lang/String;)V" } : MethodName)) ∈ lw_tbl := tb_r (List.mem_of_getElem? (i := 1119) (by decide +kernel))
theorem tb1121 : (Cond.declares ({ cls := "java/lang/Throwable", name := "<init>", desc := "(Ljava/lang/String;)V" } : MethodName)) ∈ lw_tbl := tb_r (List.mem_of_getElem? (i := 1121) (by decide +kernel))
def XE (G : Gam) (A : Nat → Prop) (QE : Mem → Prop) : String → State → State → Prop := fun E st t => E = "java/util/NoSuchElementException" ∧ (∃ M : Mem, QE M ∧ Rel G M t.heap ∧ ∀ a c, M a = some c → A a) ∧ va_F A st t
/-- a frame that is to end as T says; the code's table as P says -/
def XG (G : Gam) (d : Nat) (k : Nat × Nat) (Y : MR) (M : Mem) (lv : Lv) (st : List Value) (pc : Nat) (P : Code → Prop) (T : List Frame → (Nat → Prop) → Array Value → State → Room → State → Prop) : Prop :=
  ∀ (p : Program) (e : Env) (R : Room) (s : State) (m : MethodId) (args : Array Value) (below : List Frame) (meth : Method) (c : Code) (H : Heap) (locs : List Loc) (cells slots : Nat) (A : Nat → Prop) (ls : Array Slot),
    XC G d Y p R s m meth c A → XH G k M R s A H locs cells slots → lv_has ls Y.2.2.1 lv → P c →
    W p G.1 e R s m args below meth c H locs cells slots (T below A args s R) (F0 m pc ls st)
def TJ (G : Gam) (Q : Option Value → Mem → Prop) : List Frame → (Nat → Prop) → Array Value → State → Room → State → Prop := fun below A args s R => MQ below (QX G A Q) args s R.cells R.slots A
def TX (G : Gam) (Q : Option Value → Mem → Prop) (QE : Mem → Prop) : List Frame → (Nat → Prop) → Array Value → State → Room → State → Prop := fun below A args s R => vx_MQ below (QX G A Q) (XE G A QE) args s R.cells R.slots A
section XGR
variable {G : Gam} {d : Nat} {k : Nat × Nat} {Y : MR} {M : Mem} {lv : Lv} {st rest : List Value} {pc : Nat} {P : Code → Prop} {T : List Frame → (Nat → Prop) → Array Value → State → Room → State → Prop} {Q : Option Value → Mem → Prop} {QE : Mem → Prop}
theorem XG.ofJ (h : XJ G d k Y M lv st pc Q) : XG G d k Y M lv st pc P (TJ G Q) := fun p e R s m args below meth c H locs cells slots A ls hC hH hl _ => h p e R s m args below meth c H locs cells slots A ls hC hH hl
theorem XG.ret (h : XJ G d k Y M lv st pc Q) : XG G d k Y M lv st pc P (TX G Q QE) := fun p e R s m args below meth c H locs cells slots A ls hC hH hl _ => vx_ret (h p e R s m args below meth c H locs cells slots A ls hC hH hl)
theorem g_iconst {n : Int} {v : Int32} (hd : decode Y.2.1 pc = .ok (.iconst n, 1)) (hv : Int32.ofInt n = v) (kk : XG G d k Y M lv (.int v :: st) (pc + 1) P T) : XG G d k Y M lv st pc P T :=
  fun p e R s m args below meth c H locs cells slots A ls hC hH hl hP => lv_iconst hC.2.1 hC.2.2.1 hd hv (kk p e R s m args below meth c H locs cells slots A ls hC hH hl hP)
theorem g_bipush {n : Int} {v : Int32} (hd : decode Y.2.1 pc = .ok (.bipush n, 2)) (hv : (Int8.ofInt n).toInt32 = v) (kk : XG G d k Y M lv (.int v :: st) (pc + 2) P T) : XG G d k Y M lv st pc P T :=
  fun p e R s m args below meth c H locs cells slots A ls hC hH hl hP => lv_bipush hC.2.1 hC.2.2.1 hd hv (kk p e R s m args below meth c H locs cells slots A ls hC hH hl hP)
theorem g_iload_n {j : Fin 4} {i : Nat} {x : Int32} (hd : decode Y.2.1 pc = .ok (.iload_n j, 1)) (hi : (j : Nat) = i) (hg : lget lv i = some (.int x)) (kk : XG G d k Y M lv (.int x :: st) (pc + 1) P T) : XG G d k Y M lv st pc P T :=
  fun p e R s m args below meth c H locs cells slots A ls hC hH hl hP => lv_iload_n hC.2.1 hC.2.2.1 hd hi (lget_has hl hg) (kk p e R s m args below meth c H locs cells slots A ls hC hH hl hP)
theorem g_aload_n {j : Fin 4} {i : Nat} {x : Nat} (hd : decode Y.2.1 pc = .ok (.aload_n j, 1)) (hi : (j : Nat) = i) (hg : lget lv i = some (.ref x)) (kk : XG G d k Y M lv (.ref x :: st) (pc + 1) P T) : XG G d k Y M lv st pc P T :=
  fun p e R s m args below meth c H locs cells slots A ls hC hH hl hP => lv_aload_n hC.2.1 hC.2.2.1 hd hi (lget_has hl hg) (kk p e R s m args below meth c H locs cells slots A ls hC hH hl hP)
theorem g_if_eq {x : Int32} {off : Int} {tgt : Nat} (hd : decode Y.2.1 pc = .ok (.ifCond .eq off, 3)) (ht : (pc : Int) + off = (tgt : Int)) (kt : (x = 0) → XG G d k Y M lv st tgt P T) (kf : ¬ (x = 0) → XG G d k Y M lv st (pc + 3) P T) : XG G d k Y M lv (.int x :: st) pc P T :=
  fun p e R s m args below meth c H locs cells slots A ls hC hH hl hP => lv_if_eq hC.2.1 hC.2.2.1 hd ht (fun z => kt z p e R s m args below meth c H locs cells slots A ls hC hH hl hP) (fun z => kf z p e R s m args below meth c H locs cells slots A ls hC hH hl hP)
theorem g_if_ne {x : Int32} {off : Int} {tgt : Nat} (hd : decode Y.2.1 pc = .ok (.ifCond .ne off, 3)) (ht : (pc : Int) + off = (tgt : Int)) (kt : (¬ x = 0) → XG G d k Y M lv st tgt P T) (kf : (x = 0) → XG G d k Y M lv st (pc + 3) P T) : XG G d k Y M lv (.int x :: st) pc P T :=
  fun p e R s m args below meth c H locs cells slots A ls hC hH hl hP => lv_if_ne hC.2.1 hC.2.2.1 hd ht (fun z => kt z p e R s m args below meth c H locs cells slots A ls hC hH hl hP) (fun z => kf z p e R s m args below meth c H locs cells slots A ls hC hH hl hP)
theorem g_if_eq_b {B : Prop} {off : Int} {tgt : Nat} (hd : decode Y.2.1 pc = .ok (.ifCond .eq off, 3)) (ht : (pc : Int) + off = (tgt : Int)) (kt : ¬ B → XG G d k Y M lv st tgt P T) (kf : B → XG G d k Y M lv st (pc + 3) P T) : XG G d k Y M lv (.int (bI B) :: st) pc P T :=
  g_if_eq hd ht (fun h => kt (fun p => by rw [bI_t p] at h; exact absurd h (by decide))) (fun h => kf (Classical.byContradiction fun p => h (bI_f p)))
theorem g_if_ne_b {B : Prop} {off : Int} {tgt : Nat} (hd : decode Y.2.1 pc = .ok (.ifCond .ne off, 3)) (ht : (pc : Int) + off = (tgt : Int)) (kt : B → XG G d k Y M lv st tgt P T) (kf : ¬ B → XG G d k Y M lv st (pc + 3) P T) : XG G d k Y M lv (.int (bI B) :: st) pc P T :=
  g_if_ne hd ht (fun h => kt (Classical.byContradiction fun p => h (bI_f p))) (fun h => kf (fun p => by rw [bI_t p] at h; exact absurd h (by decide)))
/-- what stood stays, what was made lies behind -/
theorem g_keep {p : Program} {R : Room} {s : State} {m : MethodId} {meth : Method} {c : Code} {A : Nat → Prop} {H : Heap} {locs L : List Loc} {cells slots mc ms : Nat} {st₀ t T' : State} {M' : Mem} (hC : XC G d Y p R s m meth c A) (hH : XH G k M R s A H locs cells slots) (hk : mc ≤ k.1 ∧ ms ≤ k.2) (h0 : st₀.heap = H) (hL : ∀ q ∈ L, AX M H.size q.base) (e1 : T'.heap = t.heap) (hRel : Rel G M' t.heap) (hdom : ∀ a c, M' a = some c → AX M H.size a) (hF : va_F (AX M H.size) st₀ t) : XH G (k.1 - mc, k.2 - ms) M' R s A T'.heap (locs ++ L) (cells + mc) (slots + ms) := by
  have hA : ∀ q, AX M H.size q → A q := fun q hq => by
    rcases hq with ⟨c, hc⟩ | hq
    · exact hH.2.1 q c hc
    · exact hC.2.2.2.2.2.2.2.2.2.2.2.1 q (Nat.le_trans hH.2.2.1.1 hq)
  have hz : H.size ≤ T'.heap.size := by rw [e1, ← h0]; exact hF.1
  refine ⟨by rw [e1]; exact hRel, fun a c z => hA a (hdom a c z), ⟨Nat.le_trans hH.2.2.1.1 hz, fun q h1 h2 => by
      have h3 := hF.2 q (by rw [h0]; exact Nat.lt_of_lt_of_le h1 hH.2.2.1.1) (fun z => h2 (hA q z))
      rw [e1, h3, h0]
      exact hH.2.2.1.2.1 q h1 h2, fun q hq => by
      rcases List.mem_append.mp hq with h | h
      · exact hH.2.2.1.2.2 q h
      · exact hA _ (hL q h)⟩, ?_, ?_⟩
  · have := hH.2.2.2.1; have := hk.1; show cells + mc + (k.1 - mc) ≤ _; omega
  · have := hH.2.2.2.2; have := hk.2; show slots + ms + (k.2 - ms) ≤ _; omega
theorem g_ofRun {mc ms : Nat} {st0 : List Value} {a : Array Value} {p : Program} {e : Env} {R : Room} {s : State} {m : MethodId} {args : Array Value} {below : List Frame} {meth : Method} {c : Code} {H : Heap} {locs : List Loc} {cells slots : Nat} {A : Nat → Prop} {ls : Array Slot}
    (hC : XC G d Y p R s m meth c A) (hH : XH G k M R s A H locs cells slots) (hl : lv_has ls Y.2.2.1 lv) (hP : P c) (hk : mc ≤ k.1 ∧ ms ≤ k.2)
    (hr : va_Run p G.1 e R s m args below meth c H locs cells slots mc ms (F0 m pc ls st0) rest (QX G (AX M H.size) (fun r M' => XG G d (k.1 - mc, k.2 - ms) Y M' lv (rpush r rest) (pc + 3) P T) a) (AX M H.size)) :
    W p G.1 e R s m args below meth c H locs cells slots (T below A args s R) (F0 m pc ls st0) := by
  intro T0 hT X
  obtain ⟨v, st₀, t, T', L, h0, X', hL, e1, e2, ⟨⟨r, M', hr, hq, hRel, hdom⟩, hF⟩, hgo⟩ := hr T0 hT X
  cases hr
  rw [← rpush_eq] at hq
  obtain ⟨t2, a1, b1⟩ := hq p e R s m args below meth c T'.heap (locs ++ L) (cells + mc) (slots + ms) A ls hC (g_keep hC hH hk h0 hL e1 hRel hdom hF) hl hP T' rfl X'
  exact ⟨t2, hgo t2 a1, b1⟩
theorem g_cV1 {Y2 : MR} {idx : Nat} {a1 : Value} {b : Nat} {ci sz : Nat} {f : Nat → Value} {q : vw_C} (hd : decode Y.2.1 pc = .ok (.invokevirtual idx, 3)) (hL : LkV Y.1.cls idx Y2 1) (hb : M b = some (ci, sz, f)) (hq : vwCl[ci]? = some q) (hqc : q.1 = Y2.1.cls) (hs : Nat.ble (catS rest) 8 = true) (hM : CT G d (0, 0) Y2 (.ref b :: [a1]) M (fun r M' => XG G (d + 1) k Y M' lv (rpush r rest) (pc + 3) P T)) : XG G (d + 1) k Y M lv (a1 :: .ref b :: rest) pc P T := by
  intro p e R s m args below meth c H locs cells slots A ls hC hH hl hP
  have hW := hC.2.2.2.2.2.2.2.2.1
  refine g_ofRun (mc := 0) (ms := 0) (rest := rest) hC hH hl hP ⟨Nat.zero_le _, Nat.zero_le _⟩ (a := (Value.ref b :: [a1]).toArray) ?_
  have hp := x_pre hC hH (.ref b :: [a1])
  have hrc := cAt_recv (hH.1 b _ hb).2 hq (bs_K hC.1 hW)
  rw [hqc] at hrc
  exact va_runV (As := [a1]) (rest := rest) (b := b) ⟨hC.2.1, hC.2.2.1, hC.2.2.2.2.1, hC.2.2.2.2.2.1, fun w hw => absurd hw List.not_mem_nil⟩ (Ts := []) (hM H.size) ⟨x_cb hC hL.1 hL.2.2.2, tb_good hC.1 hL.2.1 rfl hW, tb_good hC.1 hL.2.2.1 rfl hW⟩ ⟨hp.1, hrc, hp.2⟩ rfl rfl hl.1 rfl (lv_room (catS_8 hs)) hd ⟨Nat.le_trans (Nat.add_le_add_left (Nat.zero_le _) _) hH.2.2.2.1, Nat.le_trans (Nat.add_le_add_left (Nat.zero_le _) _) hH.2.2.2.2⟩
theorem g_cS3 {Y2 : MR} {idx : Nat} {a1 a2 a3 : Value} (hd : decode Y.2.1 pc = .ok (.invokestatic idx, 3)) (hL : LkS Y.1.cls idx Y2 3) (hs : Nat.ble (catS rest) 8 = true) (hM : CT G d (0, 0) Y2 [a1, a2, a3] M (fun r M' => XG G (d + 1) k Y M' lv (rpush r rest) (pc + 3) P T)) : XG G (d + 1) k Y M lv (a3 :: a2 :: a1 :: rest) pc P T := by
  intro p e R s m args below meth c H locs cells slots A ls hC hH hl hP
  refine g_ofRun (mc := 0) (ms := 0) (rest := rest) hC hH hl hP ⟨Nat.zero_le _, Nat.zero_le _⟩ (a := [a1, a2, a3].toArray) ?_
  exact va_runS (As := [a1, a2, a3]) (rest := rest) ⟨hC.2.1, hC.2.2.1, hC.2.2.2.2.1, hC.2.2.2.2.2.1, fun w hw => absurd hw List.not_mem_nil⟩ (Ts := []) (hM H.size) ⟨x_cb hC hL.1 hL.2.2, tb_good hC.1 hL.2.1 rfl hC.2.2.2.2.2.2.2.2.1⟩ (x_pre hC hH [a1, a2, a3]) rfl rfl hl.1 rfl (lv_room (catS_8 hs)) hd ⟨Nat.le_trans (Nat.add_le_add_left (Nat.zero_le _) _) hH.2.2.2.1, Nat.le_trans (Nat.add_le_add_left (Nat.zero_le _) _) hH.2.2.2.2⟩
end XGR
/-- a method that returns or throws -/
def CTX (G : Gam) (d : Nat) (k : Nat × Nat) (Y : MR) (av : List Value) (M : Mem) (Q : Option Value → Mem → Prop) (QE : Mem → Prop) : Prop :=
  ∀ sz : Nat, vx_Met G.1 Y.1 [.code Y.1 Y.2.1 Y.2.2.1 Y.2.2.2] (rmX d k) (va_Pc av (PX G M sz)) (QX G (AX M sz) Q) (XE G (AX M sz) QE) k.1 k.2 (AX M sz)
theorem CTX.of {G : Gam} {d : Nat} {k : Nat × Nat} {Y : MR} {av : List Value} {M : Mem} {Q : Option Value → Mem → Prop} {QE : Mem → Prop} (hy : plainName Y.1.cls = true) (hn : (lg_sl av).length ≤ Y.2.2.1) (h : XG G d k Y M (lv_args 0 av) [] 0 (fun c => ∀ x ∈ c.exceptionTable.toList, False) (TX G Q QE)) : CTX G d k Y av M Q QE := by
  intro sz
  refine vx_ofW (cc := Y.2.1) (maxL := Y.2.2.1) (ret := Y.2.2.2) hy rfl ?_
  intro p e s m args below meth c s₁ B hml ht hv
  obtain ⟨rfl, hB, hW, hO, hsz, hR⟩ := hv
  have hown : s.vm.findClass Y.1.cls = some m.cls := findClass_of_methodNamed B.named
  have hl := lv_entry av (n := Y.2.2.1) hn
  rw [lg_entry_eq]
  exact h p e (rmX d k) s m av.toArray below meth c s.heap [] 0 0 (AX M sz) _ ⟨hB, B.exec, B.bytes, B.returns, hml, hown, B.notSynchronized, (name_of_methodNamed B.named B.method).1, hW, rfl, rfl, fun q hq => Or.inr (by rw [← hsz]; exact hq), fun q hq => by
      rcases hq with ⟨c, hc⟩ | hq
      · exact (hR q c hc).1
      · exact Nat.le_trans (by rw [← hsz]; exact hO.1) hq, hO⟩ ⟨hR, fun a c hc => Or.inl ⟨c, hc⟩, va_S.rf, by simp [rmX], by simp [rmX]⟩ hl ht
/-- what a throw needs of the start -/
def ThOK (G : Gam) : Prop := G.1.stackTraces = false ∧ vx_Zq Bundle.tN "UNASSIGNED_STACK" Bundle.steD (oldA G) G.2.1 G.2.1.heap ∧ vx_Zq Bundle.tN "SUPPRESSED_SENTINEL" Bundle.listD (oldA G) G.2.1 G.2.1.heap ∧ ∃ (tx : String) (a : Nat), vk_R RX11 141 tx a G.2.1
theorem XC.oQ {G : Gam} {d : Nat} {Y : MR} {p : Program} {R : Room} {s : State} {m : MethodId} {meth : Method} {c : Code} {A : Nat → Prop} (hC : XC G d Y p R s m meth c A) {C n dd : String} (h : vx_Zq C n dd (oldA G) G.2.1 G.2.1.heap) : vx_Zq C n dd A s s.heap := by
  obtain ⟨-, -, -, -, -, -, -, -, hW, -, -, -, h3, h4⟩ := hC
  exact ((vx_Zq.kept h (old_q h4)).moved hW.alike).narrow h3
