/-! the law's told: what is thrown is caught -/
abbrev ML_told : MR := (yL_told, cL_told, 5, (some .int))
def hhT : List (Nat × Nat × Nat × Nat) := [(0, 10, 13, 13)]
/-- the frame with an exception over it -/
def XQ (G : Gam) (d : Nat) (k : Nat × Nat) (Y : MR) (M : Mem) (lv : Lv) (st : List Value) (pc : Nat) (P : Code → Prop) (T : List Frame → (Nat → Prop) → Array Value → State → Room → State → Prop) : Prop :=
  ∀ (p : Program) (e : Env) (R : Room) (s : State) (m : MethodId) (args : Array Value) (below : List Frame) (meth : Method) (c : Code) (H : Heap) (locs : List Loc) (cells slots : Nat) (A : Nat → Prop) (ls : Array Slot) (q : Nat) (ce : Cell),
    XC G d Y p R s m meth c A → XH G k M R s A H locs cells slots → lv_has ls Y.2.2.1 lv → P c → H[q]? = some ce → ce.vm = .none → s.vm.findClass nsE = some ce.cls →
    vx_W p G.1 e R s m args below meth c H locs cells slots (T below A args s R) (F0 m pc ls st) q
/-- a method with a table of its own that returns -/
def CTH (G : Gam) (d : Nat) (k : Nat × Nat) (Y : MR) (hh : List (Nat × Nat × Nat × Nat)) (av : List Value) (M : Mem) (Q : Option Value → Mem → Prop) : Prop :=
  ∀ sz : Nat, Met G.1 Y.1 [.codeWith Y.1 Y.2.1 Y.2.2.1 Y.2.2.2 hh] (rmX d k) (va_Pc av (PX G M sz)) (QX G (AX M sz) Q) k.1 k.2 (AX M sz)
theorem CTH.of {G : Gam} {d : Nat} {k : Nat × Nat} {Y : MR} {hh : List (Nat × Nat × Nat × Nat)} {av : List Value} {M : Mem} {Q : Option Value → Mem → Prop} (hy : plainName Y.1.cls = true) (hn : (lg_sl av).length ≤ Y.2.2.1) (h : XG G d k Y M (lv_args 0 av) [] 0 (fun c => c.exceptionTable.toList = tableOf hh) (TJ G Q)) : CTH G d k Y hh av M Q := by
  intro sz
  refine va_MetW (cc := Y.2.1) (maxL := Y.2.2.1) (ret := Y.2.2.2) (hh := hh) hy rfl ?_
  intro p e s m args below meth c s₁ B hml hv
  have ht := vx_table (x := Y.1) B (atoms_spec (ws := [.codeWith Y.1 Y.2.1 Y.2.2.1 Y.2.2.2 hh]) B.pre _ List.mem_cons_self)
  obtain ⟨rfl, hB, hW, hO, hsz, hR⟩ := hv
  have hown : s.vm.findClass Y.1.cls = some m.cls := findClass_of_methodNamed B.named
  have hl := lv_entry av (n := Y.2.2.1) hn
  rw [lg_entry_eq]
  exact h p e (rmX d k) s m av.toArray below meth c s.heap [] 0 0 (AX M sz) _ ⟨hB, B.exec, B.bytes, B.returns, hml, hown, B.notSynchronized, (name_of_methodNamed B.named B.method).1, hW, rfl, rfl, fun q hq => Or.inr (by rw [← hsz]; exact hq), fun q hq => by
      rcases hq with ⟨c, hc⟩ | hq
      · exact (hR q c hc).1
      · exact Nat.le_trans (by rw [← hsz]; exact hO.1) hq, hO⟩ ⟨hR, fun a c hc => Or.inl ⟨c, hc⟩, va_S.rf, by simp [rmX], by simp [rmX]⟩ hl ht
theorem tb_cast {G : Gam} (hB : BaseOK G) {C T : String} (hw : Cond.castable C T ∈ lw_tbl) {args : Array Value} {s : State} (hW : G.2.1.WarmedH s.vm) : (Cond.castable C T).before args s = true := by
  obtain ⟨⟨b, h⟩, -⟩ := hB
  exact va_Nw.use rfl (va_Nw.warmC hW (va_Nw.of rfl (h _ hw)))
section LTL
variable {G : Gam} {d : Nat} {k : Nat × Nat} {Y : MR} {M : Mem} {lv : Lv} {st rest : List Value} {pc : Nat} {P : Code → Prop} {T : List Frame → (Nat → Prop) → Array Value → State → Room → State → Prop} {Q : Option Value → Mem → Prop} {QE : Mem → Prop}
theorem g_xV {Y2 : MR} {n idx mc ms ci sz b : Nat} {f : Nat → Value} {q : vw_C} (As : List Value) (hd : decode Y.2.1 pc = .ok (.invokevirtual idx, 3)) (hL : LkV Y.1.cls idx Y2 n) (hb : M b = some (ci, sz, f)) (hq : vwCl[ci]? = some q) (hqc : q.1 = Y2.1.cls) (hn : As.length = n) (hs : Nat.ble (catS rest) 8 = true) (hk : mc ≤ k.1 ∧ ms ≤ k.2) {st0 : List Value} (he : st0 = As.reverse ++ .ref b :: rest)
    (hM : CTX G d (mc, ms) Y2 (.ref b :: As) M (fun r M' => XG G (d + 1) (k.1 - mc, k.2 - ms) Y M' lv (rpush r rest) (pc + 3) P T) (fun M' => XQ G (d + 1) (k.1 - mc, k.2 - ms) Y M' lv rest pc P T)) : XG G (d + 1) k Y M lv st0 pc P T := by
  intro p e R s m args below meth c H locs cells slots A ls hC hH hl hP
  have hW := hC.2.2.2.2.2.2.2.2.1
  have hp := x_pre hC hH (.ref b :: As)
  have hrc := cAt_recv (hH.1 b _ hb).2 hq (bs_K hC.1 hW)
  rw [hqc] at hrc
  have hr := vx_runV (As := As) (rest := rest) (b := b) (g := F0 m pc ls st0) (meth := meth) (args := args) (below := below) (locs := locs) (cells := cells) (slots := slots) (e := e) ⟨hC.2.1, hC.2.2.1, hC.2.2.2.2.1, hC.2.2.2.2.2.1, fun w hw => absurd hw List.not_mem_nil⟩ (Ts := []) (hM H.size) ⟨x_cb hC hL.1 hL.2.2.2, tb_good hC.1 hL.2.1 rfl hW, tb_good hC.1 hL.2.2.1 rfl hW⟩ ⟨hp.1, hrc, hp.2⟩ rfl hn hl.1 he (lv_room (catS_8 hs)) hd ⟨Nat.le_trans (Nat.add_le_add_left hk.1 _) hH.2.2.2.1, Nat.le_trans (Nat.add_le_add_left hk.2 _) hH.2.2.2.2⟩
  intro T0 hT X
  rcases hr T0 hT X with ⟨v, st₀, t, T', L, h0, X', hL2, e1, e2, ⟨⟨r, M', hr, hq2, hRel, hdom⟩, hF⟩, hgo⟩ | ⟨q9, st₀, t, T', L, E, ce, h0, X', hL2, e1, e2, ⟨hE, ⟨M', hq2, hRel, hdom⟩, hF⟩, hce, hcv, hcl, hgo⟩
  · cases hr
    rw [← rpush_eq] at hq2
    obtain ⟨t2, a1, b1⟩ := hq2 p e R s m args below meth c T'.heap (locs ++ L) (cells + mc) (slots + ms) A ls hC (g_keep hC hH hk h0 hL2 e1 hRel hdom hF) hl hP T' rfl X'
    exact ⟨t2, hgo t2 a1, b1⟩
  · subst hE
    obtain ⟨t2, a1, b1⟩ := hq2 p e R s m args below meth c T'.heap (locs ++ L) (cells + mc) (slots + ms) A ls q9 ce hC (g_keep hC hH hk h0 hL2 e1 hRel hdom hF) hl hP (by rw [e1]; exact hce) hcv hcl T' rfl X'
    exact ⟨t2, hgo.trans a1, b1⟩
theorem c_L_told {x a sz : Nat} {i1 i2 : Int32} {f g : Nat → Value} (hM : M a = some (104, 1, f)) (hx : M x = some (12, sz, g)) (hcall : ∀ Q' QE', (∀ v M', (∃ f', M' a = some (104, 1, f') ∧ Q (some (.int 0)) (mset M' a (104, 1, updV f' 0 (.long v.toInt64)))) → Q' (some (.int v)) M') → (∀ M', Q (some (.int 1)) M' → QE' M') → CTX G d (1, 6) MX11_told [.ref x, .int i1, .int i2] M Q' QE') : CTH G (d + 1) (1, 6) ML_told hhT [.ref x, .int i1, .int i2, .ref a] M Q := by
  refine CTH.of rfl (Nat.le_of_ble_eq_true rfl) ?_
  refine g_aload_n dL_told_0 rfl rfl ?_
  refine g_iconst (v := 0) dL_told_1 (by decide) ?_
  refine g_aload_n dL_told_2 rfl rfl ?_
  refine g_iload_n dL_told_3 rfl rfl ?_
  refine g_iload_n dL_told_4 rfl rfl ?_
  refine g_xV (mc := 1) (ms := 6) (rest := [.int 0, .ref a]) [.int i1, .int i2] dL_told_5 lv_L_7 hx rfl rfl rfl rfl ⟨Nat.le_refl _, Nat.le_refl _⟩ rfl (hcall _ _ (fun v M' hv => ?_) (fun M' hv => ?_))
  · obtain ⟨f', h1, h2⟩ := hv
    refine XG.ofJ ?_
    refine x_i2l dL_told_8 ?_
    refine x_lastore dL_told_9 h1 (vp_in_nI (n := 0) (N := 1) (by decide) (by decide)) ?_
    refine x_goto (tgt := 17) dL_told_10 (by decide) ?_
    refine x_iconst (v := 0) dL_told_17 (by decide) ?_
    exact x_ireturn dL_told_18 rfl rfl h2
  · intro p e R s m args below meth c H locs cells slots A ls q ce hC hH hl hP hce hcv hcl
    have hW := hC.2.2.2.2.2.2.2.2.1
    have hJ : XJ G (d + 1) (0, 0) ML_told M' (lv_args 0 [.ref x, .int i1, .int i2, .ref a]) [.ref q] 13 Q := by
      refine x_astore dL_told_13 (by decide) ?_
      refine x_iconst (v := 1) dL_told_15 (by decide) ?_
      exact x_ireturn dL_told_16 rfl rfl hv
    exact vx_catch (own := RL) (name := nsE) (E := nsE) (pc := 5) hC.2.2.2.2.2.1 [] _ [] hP (fun z hz => absurd hz List.not_mem_nil) (by decide) (by decide) (tb_good hC.1 tb1108 rfl hW) (tb_cast hC.1 tb1115 hW) hce hcv hcl (hJ p e R s m args below meth c H locs cells slots A ls hC hH hl)
end LTL
