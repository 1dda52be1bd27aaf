/-! the law, 1: rows and the two calls -/
theorem tb0 : (Cond.initialized "DiaryHouseLaw") ∈ lw_tbl := tb_r (List.mem_of_getElem? (i := 0) (by decide +kernel))
abbrev ML_law : MR := (yL_law, cL_law, 7, (some .boolean))
theorem tb_ctab {G : Gam} (hB : BaseOK G) {y : MethodName} {b : ByteArray} {n : Nat} {r : Option FieldType} {hh : List (Nat × Nat × Nat × Nat)} (hw : Cond.codeWith y b n r hh ∈ lw_tbl) {args : Array Value} {s : State} (hW : G.2.1.WarmedH s.vm) : (Cond.codeWith y b n r hh).before args s = true := by
  obtain ⟨⟨b, h⟩, -⟩ := hB
  exact word_at hW (Or.inl (by first | rfl | simp [Cond.onTables, Cond.keeps, Cond.steady])) (h _ hw)
section LRW
variable {G : Gam} {d : Nat} {k : Nat × Nat} {Y : MR} {M : Mem} {lv : Lv} {st rest : List Value} {pc : Nat} {Q : Option Value → Mem → Prop}
theorem x_callSW {Y2 : MR} {hh : List (Nat × Nat × Nat × Nat)} {n idx mc ms : Nat} (As : List Value) (hd : decode Y.2.1 pc = .ok (.invokestatic idx, 3)) (hlk : Cond.methodLink Y.1.cls idx Y2.1 ∈ lw_tbl) (hst : Cond.static Y2.1 ∈ lw_tbl) (hin : Cond.initialized Y2.1.cls ∈ lw_tbl) (hcw : Cond.codeWith Y2.1 Y2.2.1 Y2.2.2.1 Y2.2.2.2 hh ∈ lw_tbl) (hy : Y2.1.cls ≠ "java/lang/invoke/MethodHandle" ∧ Y2.1.cls ≠ "java/lang/invoke/VarHandle") (hdsc : (parseMethodDescriptor Y2.1.desc).map (fun d => d.parameters.length) = some n) (hml : 8 + (Y2.2.2.1 + 11) ≤ 64) (hn : As.length = n) (hs : (rest.map fun v => v.category).sum ≤ 8) (hk : mc ≤ k.1 ∧ ms ≤ k.2) {st0 : List Value} (he : st0 = As.reverse ++ rest)
    (hM : CTH G d (mc, ms) Y2 hh As M (fun r M' => XJ G (d + 1) (k.1 - mc, k.2 - ms) Y M' lv (rpush r rest) (pc + 3) Q)) : XJ G (d + 1) k Y M lv st0 pc Q := by
  intro p e R s m args below meth c H locs cells slots A ls hC hH hl
  refine x_ofRun (rest := rest) hC hH hl hk (a := As.toArray) ?_
  have hC0 := hC
  obtain ⟨hB, hx, hb, hrt, hmx, hown, -, -, hW, hfr, hlo, -⟩ := hC
  refine vx_runSW (As := As) (rest := rest) (maxL := Y2.2.2.1) (bytes := Y2.2.1) (ret := Y2.2.2.2) (hh := hh) (n := n) (rm := rmX d (mc, ms)) (ws := [.codeWith Y2.1 Y2.2.1 Y2.2.2.1 Y2.2.2.2 hh]) ⟨hx, hb, hmx, hown, fun w hw => absurd hw List.not_mem_nil⟩ (Ts := []) (hM H.size) ⟨⟨rfl, rfl, by rw [hfr]; exact Nat.le_refl _, ?_, ?_, List.mem_singleton.mpr rfl⟩, tb_ctab hB hcw hW, tb_good hB hin rfl hW, hy, fun sig h => ?_, tb_good hB hlk rfl hW, tb_good hB hst rfl hW⟩ (x_pre hC0 hH As) rfl hn hl.1 he (lv_room hs) hd ⟨Nat.le_trans (Nat.add_le_add_left hk.1 _) hH.2.2.2.1, Nat.le_trans (Nat.add_le_add_left hk.2 _) hH.2.2.2.2⟩
  · rw [hlo]; show 8 + (Y2.2.2.1 + 11) + 64 * d ≤ 64 * (d + 1); omega
  · intro w hw a' U hU
    rw [List.mem_singleton.mp hw]
    exact tb_ctab hB hcw (State.WarmedH.trans hW hU)
  · rw [h] at hdsc
    exact (Option.some.inj hdsc).symm
/-- the script's i-th place -/
theorem ldg {b L i j : Nat} {xs : Nat → Int32} {n : Int} (d0 : decode Y.2.1 pc = .ok (.aload_n 0, 1)) (d1 : decode Y.2.1 (pc + 1) = .ok (.iload 4, 2)) (d2 : decode Y.2.1 (pc + 3) = .ok (.iconst n, 1)) (hn : Int32.ofInt n = nI j) (d3 : decode Y.2.1 (pc + 4) = .ok (.iadd, 1)) (d4 : decode Y.2.1 (pc + 5) = .ok (.iaload, 1))
    (g0 : lget lv 0 = some (.ref b)) (g4 : lget lv 4 = some (.int (nI i))) (hT : OldT G .int b L (fun j => .int (xs j))) (hij : i + j < L) (hL : L ≤ 3584) (kk : XJ G d k Y M lv (.int (xs (i + j)) :: st) (pc + 6) Q) : XJ G d k Y M lv st pc Q := by
  refine x_aload_n d0 rfl g0 ?_
  refine x_iload d1 g4 ?_
  refine x_iconst d2 hn ?_
  refine x_iadd d3 ?_
  have e : nI i + nI j = nI (i + j) := (Int32.ofNat_add i j).symm
  rw [e]
  exact x_oiald d4 hT (vp_in_nI hij (by omega)) (by rw [nI_clamp (by omega)]) kk
theorem ldg6 {b L i j : Nat} {xs : Nat → Int32} {n : Int} (d0 : decode Y.2.1 pc = .ok (.aload_n 0, 1)) (d1 : decode Y.2.1 (pc + 1) = .ok (.iload 4, 2)) (d2 : decode Y.2.1 (pc + 3) = .ok (.bipush n, 2)) (hn : (Int8.ofInt n).toInt32 = nI j) (d3 : decode Y.2.1 (pc + 5) = .ok (.iadd, 1)) (d4 : decode Y.2.1 (pc + 6) = .ok (.iaload, 1))
    (g0 : lget lv 0 = some (.ref b)) (g4 : lget lv 4 = some (.int (nI i))) (hT : OldT G .int b L (fun j => .int (xs j))) (hij : i + j < L) (hL : L ≤ 3584) (kk : XJ G d k Y M lv (.int (xs (i + j)) :: st) (pc + 7) Q) : XJ G d k Y M lv st pc Q := by
  refine x_aload_n d0 rfl g0 ?_
  refine x_iload d1 g4 ?_
  refine x_bipush d2 hn ?_
  refine x_iadd d3 ?_
  have e : nI i + nI j = nI (i + j) := (Int32.ofNat_add i j).symm
  rw [e]
  exact x_oiald d4 hT (vp_in_nI hij (by omega)) (by rw [nI_clamp (by omega)]) kk
end LRW
def one (o : Nat) (f : Nat → Value) : Mem := fun a => if a = o then some (104, 1, f) else none
theorem one_o {o : Nat} {f : Nat → Value} : one o f o = some (104, 1, f) := if_pos rfl
/-- the three side by side -/
def L3 (τ ad : Nat → Nat) (κ σ : MS) (Md : Mem) (o : Nat) (f : Nat → Value) : Mem := mun (cm τ κ Md) (mun (mm ad σ) (one o f))
def D3 (τ ad : Nat → Nat) (κ σ : MS) (Md : Mem) (o : Nat) (f : Nat → Value) : Prop := Dj (cm τ κ Md) (mun (mm ad σ) (one o f)) ∧ Dj (mm ad σ) (one o f)
section L3S
variable {G : Gam} {d : Nat} {k : Nat × Nat} {τ ad : Nat → Nat} {ω : Nat → Nat → Nat} {ε : Nat → Nat} {σ σ' σN κ κ' : MS} {Md Md' : Mem} {o : Nat} {f : Nat → Value} {Q : Option Value → Mem → Prop} {Y : MR} {av : List Value} {a : Int32}
theorem L3_x (hi : adOK τ) : L3 τ ad κ σ Md o f (τ 0) = some (12, 17, kV τ κ 0) := mun_l (kc hi kf_0)
theorem L3_m (h : D3 τ ad κ σ Md o f) : L3 τ ad κ σ Md o f (ad 99) = some (13, 66, vM ad σ) := mun_d h.1 (mun_l mm_obj)
theorem L3_o (h : D3 τ ad κ σ Md o f) : L3 τ ad κ σ Md o f o = some (104, 1, f) := mun_d h.1 (mun_d h.2 one_o)
theorem L_cc (hc : ∀ Q : Option Value → Mem → Prop, (∀ κ' ω' ε' Md', Bn G τ ω' ε' σN κ' Md' → Q (some (.int a)) (cm τ κ' Md')) → CT G d k Y av (cm τ κ Md) Q) (hd : D3 τ ad κ σ Md o f)
    (hq : ∀ κ' ω' ε' Md', Bn G τ ω' ε' σN κ' Md' → D3 τ ad κ' σ Md' o f → Q (some (.int a)) (L3 τ ad κ' σ Md' o f)) : CT G d k Y av (L3 τ ad κ σ Md o f) Q := by
  refine CT.frame (Q1 := fun r M' => r = some (.int a) ∧ ∃ κ' ω' ε' Md', M' = cm τ κ' Md' ∧ Bn G τ ω' ε' σN κ' Md') (hc _ (fun κ' ω' ε' Md' hB => ⟨rfl, κ', ω', ε', Md', rfl, hB⟩)) hd.1 (fun r M' hr hj => ?_)
  obtain ⟨rfl, κ', ω', ε', Md', rfl, hB⟩ := hr
  exact hq κ' ω' ε' Md' hB ⟨hj, hd.2⟩
theorem L3_sw (hd : D3 τ ad κ σ Md o f) : L3 τ ad κ σ Md o f = mun (mm ad σ) (mun (cm τ κ Md) (one o f)) := by
  unfold L3
  rw [← mun_as, mun_cm hd.1.l, mun_as]
theorem D3_sw (hd : D3 τ ad κ σ Md o f) : Dj (mm ad σ) (mun (cm τ κ Md) (one o f)) := Dj.un hd.1.l.sym hd.2
theorem D3_of (hd : D3 τ ad κ σ Md o f) (h : Dj (mm ad σ') (mun (cm τ κ Md) (one o f))) : D3 τ ad κ σ' Md o f := ⟨Dj.un h.l.sym hd.1.r, h.r⟩
theorem L_cm (hc : ∀ Q : Option Value → Mem → Prop, (∀ σ', Eqv σN σ' → Q (some (.int a)) (mm ad σ')) → CT G d k Y av (mm ad σ) Q) (hd : D3 τ ad κ σ Md o f)
    (hq : ∀ σ', Eqv σN σ' → D3 τ ad κ σ' Md o f → Q (some (.int a)) (L3 τ ad κ σ' Md o f)) : CT G d k Y av (L3 τ ad κ σ Md o f) Q := by
  rw [L3_sw hd]
  refine CT.frame (Q1 := fun r M' => r = some (.int a) ∧ ∃ σ', M' = mm ad σ' ∧ Eqv σN σ') (hc _ (fun σ' hs => ⟨rfl, σ', rfl, hs⟩)) (D3_sw hd) (fun r M' hr hj => ?_)
  obtain ⟨rfl, σ', rfl, hs⟩ := hr
  have hd' := D3_of hd hj
  rw [← L3_sw hd']
  exact hq σ' hs hd'
end L3S
