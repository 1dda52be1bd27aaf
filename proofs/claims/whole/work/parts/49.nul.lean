/-! null in a local -/
section NUL
variable {G : Gam} {d : Nat} {k : Nat × Nat} {Y : MR} {M : Mem} {lv : Lv} {st : List Value} {pc : Nat} {Q : Option Value → Mem → Prop}
theorem x_astore_nN {j : Fin 4} {i : Nat} (hd : decode Y.2.1 pc = .ok (.astore_n j, 1)) (hi : (j : Nat) = i) (hn : i < Y.2.2.1) (kk : XJ G d k Y M (lset lv i .null) st (pc + 1) Q) : XJ G d k Y M lv (.null :: st) pc Q :=
  fun p e R s m args below meth c H locs cells slots A ls hC hH hl => lv_astore_nN hC.2.1 hC.2.2.1 hd hi hl hn rfl (fun ls' hl' => kk p e R s m args below meth c H locs cells slots A ls' hC hH (lset_has hl'))
theorem x_astoreN {i : Nat} (hd : decode Y.2.1 pc = .ok (.astore i, 2)) (hn : i < Y.2.2.1) (kk : XJ G d k Y M (lset lv i .null) st (pc + 2) Q) : XJ G d k Y M lv (.null :: st) pc Q :=
  fun p e R s m args below meth c H locs cells slots A ls hC hH hl => lv_astoreN hC.2.1 hC.2.2.1 hd hl hn rfl (fun ls' hl' => kk p e R s m args below meth c H locs cells slots A ls' hC hH (lset_has hl'))
theorem x_aload_nN {j : Fin 4} {i : Nat} (hd : decode Y.2.1 pc = .ok (.aload_n j, 1)) (hi : (j : Nat) = i) (hg : lget lv i = some .null) (kk : XJ G d k Y M lv (.null :: st) (pc + 1) Q) : XJ G d k Y M lv st pc Q :=
  fun p e R s m args below meth c H locs cells slots A ls hC hH hl => lv_aload_nN hC.2.1 hC.2.2.1 hd hi (lget_has hl hg) (kk p e R s m args below meth c H locs cells slots A ls hC hH hl)
theorem x_aloadN {i : Nat} (hd : decode Y.2.1 pc = .ok (.aload i, 2)) (hg : lget lv i = some .null) (kk : XJ G d k Y M lv (.null :: st) (pc + 2) Q) : XJ G d k Y M lv st pc Q :=
  fun p e R s m args below meth c H locs cells slots A ls hC hH hl => lv_aloadN hC.2.1 hC.2.2.1 hd (lget_has hl hg) (kk p e R s m args below meth c H locs cells slots A ls hC hH hl)
end NUL
