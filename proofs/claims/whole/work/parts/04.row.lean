section XR
variable {G : Gam} {d : Nat} {k : Nat × Nat} {Y : MR} {M : Mem} {lv : Lv} {st : List Value} {pc : Nat} {Q : Option Value → Mem → Prop}
theorem x_iconst {n : Int} {v : Int32} (hd : decode Y.2.1 pc = .ok (.iconst n, 1)) (hv : Int32.ofInt n = v) (kk : XJ G d k Y M lv (.int v :: st) (pc + 1) Q) : XJ G d k Y M lv st pc Q :=
  fun p e R s m args below meth c H locs cells slots A ls hC hH hl => lv_iconst hC.2.1 hC.2.2.1 hd hv (kk p e R s m args below meth c H locs cells slots A ls hC hH hl)
theorem x_bipush {n : Int} {v : Int32} (hd : decode Y.2.1 pc = .ok (.bipush n, 2)) (hv : (Int8.ofInt n).toInt32 = v) (kk : XJ G d k Y M lv (.int v :: st) (pc + 2) Q) : XJ G d k Y M lv st pc Q :=
  fun p e R s m args below meth c H locs cells slots A ls hC hH hl => lv_bipush hC.2.1 hC.2.2.1 hd hv (kk p e R s m args below meth c H locs cells slots A ls hC hH hl)
theorem x_sipush {n : Int} {v : Int32} (hd : decode Y.2.1 pc = .ok (.sipush n, 3)) (hv : (Int16.ofInt n).toInt32 = v) (kk : XJ G d k Y M lv (.int v :: st) (pc + 3) Q) : XJ G d k Y M lv st pc Q :=
  fun p e R s m args below meth c H locs cells slots A ls hC hH hl => lv_sipush hC.2.1 hC.2.2.1 hd hv (kk p e R s m args below meth c H locs cells slots A ls hC hH hl)
theorem x_lconst {n : Fin 2} {v : Int64} (hd : decode Y.2.1 pc = .ok (.lconst n, 1)) (hv : Int64.ofNat (n : Nat) = v) (kk : XJ G d k Y M lv (.long v :: st) (pc + 1) Q) : XJ G d k Y M lv st pc Q :=
  fun p e R s m args below meth c H locs cells slots A ls hC hH hl => lv_lconst hC.2.1 hC.2.2.1 hd hv (kk p e R s m args below meth c H locs cells slots A ls hC hH hl)
theorem x_null  (hd : decode Y.2.1 pc = .ok (.aconst_null, 1)) (kk : XJ G d k Y M lv (.null :: st) (pc + 1) Q) : XJ G d k Y M lv st pc Q :=
  fun p e R s m args below meth c H locs cells slots A ls hC hH hl => lv_null hC.2.1 hC.2.2.1 hd (kk p e R s m args below meth c H locs cells slots A ls hC hH hl)
theorem x_iload_n {j : Fin 4} {i : Nat} {x : Int32} (hd : decode Y.2.1 pc = .ok (.iload_n j, 1)) (hi : (j : Nat) = i) (hg : lget lv i = some (.int x)) (kk : XJ G d k Y M lv (.int x :: st) (pc + 1) Q) : XJ G d k Y M lv st pc Q :=
  fun p e R s m args below meth c H locs cells slots A ls hC hH hl => lv_iload_n hC.2.1 hC.2.2.1 hd hi (lget_has hl hg) (kk p e R s m args below meth c H locs cells slots A ls hC hH hl)
theorem x_iload {i : Nat} {x : Int32} (hd : decode Y.2.1 pc = .ok (.iload i, 2)) (hg : lget lv i = some (.int x)) (kk : XJ G d k Y M lv (.int x :: st) (pc + 2) Q) : XJ G d k Y M lv st pc Q :=
  fun p e R s m args below meth c H locs cells slots A ls hC hH hl => lv_iload hC.2.1 hC.2.2.1 hd (lget_has hl hg) (kk p e R s m args below meth c H locs cells slots A ls hC hH hl)
theorem x_lload_n {j : Fin 4} {i : Nat} {x : Int64} (hd : decode Y.2.1 pc = .ok (.lload_n j, 1)) (hi : (j : Nat) = i) (hg : lget lv i = some (.long x)) (kk : XJ G d k Y M lv (.long x :: st) (pc + 1) Q) : XJ G d k Y M lv st pc Q :=
  fun p e R s m args below meth c H locs cells slots A ls hC hH hl => lv_lload_n hC.2.1 hC.2.2.1 hd hi (lget_has hl hg) (kk p e R s m args below meth c H locs cells slots A ls hC hH hl)
theorem x_lload {i : Nat} {x : Int64} (hd : decode Y.2.1 pc = .ok (.lload i, 2)) (hg : lget lv i = some (.long x)) (kk : XJ G d k Y M lv (.long x :: st) (pc + 2) Q) : XJ G d k Y M lv st pc Q :=
  fun p e R s m args below meth c H locs cells slots A ls hC hH hl => lv_lload hC.2.1 hC.2.2.1 hd (lget_has hl hg) (kk p e R s m args below meth c H locs cells slots A ls hC hH hl)
theorem x_aload_n {j : Fin 4} {i : Nat} {x : Nat} (hd : decode Y.2.1 pc = .ok (.aload_n j, 1)) (hi : (j : Nat) = i) (hg : lget lv i = some (.ref x)) (kk : XJ G d k Y M lv (.ref x :: st) (pc + 1) Q) : XJ G d k Y M lv st pc Q :=
  fun p e R s m args below meth c H locs cells slots A ls hC hH hl => lv_aload_n hC.2.1 hC.2.2.1 hd hi (lget_has hl hg) (kk p e R s m args below meth c H locs cells slots A ls hC hH hl)
theorem x_aload {i : Nat} {x : Nat} (hd : decode Y.2.1 pc = .ok (.aload i, 2)) (hg : lget lv i = some (.ref x)) (kk : XJ G d k Y M lv (.ref x :: st) (pc + 2) Q) : XJ G d k Y M lv st pc Q :=
  fun p e R s m args below meth c H locs cells slots A ls hC hH hl => lv_aload hC.2.1 hC.2.2.1 hd (lget_has hl hg) (kk p e R s m args below meth c H locs cells slots A ls hC hH hl)
theorem x_istore_n {j : Fin 4} {i : Nat} {x : Int32} (hd : decode Y.2.1 pc = .ok (.istore_n j, 1)) (hi : (j : Nat) = i) (hn : i < Y.2.2.1) (kk : XJ G d k Y M (lset lv i (.int x)) st (pc + 1) Q) : XJ G d k Y M lv (.int x :: st) pc Q :=
  fun p e R s m args below meth c H locs cells slots A ls hC hH hl => lv_istore_n hC.2.1 hC.2.2.1 hd hi hl hn rfl (fun ls' hl' => kk p e R s m args below meth c H locs cells slots A ls' hC hH (lset_has hl'))
theorem x_istore {i : Nat} {x : Int32} (hd : decode Y.2.1 pc = .ok (.istore i, 2)) (hn : i < Y.2.2.1) (kk : XJ G d k Y M (lset lv i (.int x)) st (pc + 2) Q) : XJ G d k Y M lv (.int x :: st) pc Q :=
  fun p e R s m args below meth c H locs cells slots A ls hC hH hl => lv_istore hC.2.1 hC.2.2.1 hd hl hn rfl (fun ls' hl' => kk p e R s m args below meth c H locs cells slots A ls' hC hH (lset_has hl'))
theorem x_lstore_n {j : Fin 4} {i : Nat} {x : Int64} (hd : decode Y.2.1 pc = .ok (.lstore_n j, 1)) (hi : (j : Nat) = i) (hn : i + 1 < Y.2.2.1) (kk : XJ G d k Y M (lset2 lv i (.long x)) st (pc + 1) Q) : XJ G d k Y M lv (.long x :: st) pc Q :=
  fun p e R s m args below meth c H locs cells slots A ls hC hH hl => lv_lstore_n hC.2.1 hC.2.2.1 hd hi hl hn rfl (fun ls' hl' => kk p e R s m args below meth c H locs cells slots A ls' hC hH (lset2_has hl'))
theorem x_lstore {i : Nat} {x : Int64} (hd : decode Y.2.1 pc = .ok (.lstore i, 2)) (hn : i + 1 < Y.2.2.1) (kk : XJ G d k Y M (lset2 lv i (.long x)) st (pc + 2) Q) : XJ G d k Y M lv (.long x :: st) pc Q :=
  fun p e R s m args below meth c H locs cells slots A ls hC hH hl => lv_lstore hC.2.1 hC.2.2.1 hd hl hn rfl (fun ls' hl' => kk p e R s m args below meth c H locs cells slots A ls' hC hH (lset2_has hl'))
theorem x_astore_n {j : Fin 4} {i : Nat} {x : Nat} (hd : decode Y.2.1 pc = .ok (.astore_n j, 1)) (hi : (j : Nat) = i) (hn : i < Y.2.2.1) (kk : XJ G d k Y M (lset lv i (.ref x)) st (pc + 1) Q) : XJ G d k Y M lv (.ref x :: st) pc Q :=
  fun p e R s m args below meth c H locs cells slots A ls hC hH hl => lv_astore_n hC.2.1 hC.2.2.1 hd hi hl hn rfl (fun ls' hl' => kk p e R s m args below meth c H locs cells slots A ls' hC hH (lset_has hl'))
theorem x_astore {i : Nat} {x : Nat} (hd : decode Y.2.1 pc = .ok (.astore i, 2)) (hn : i < Y.2.2.1) (kk : XJ G d k Y M (lset lv i (.ref x)) st (pc + 2) Q) : XJ G d k Y M lv (.ref x :: st) pc Q :=
  fun p e R s m args below meth c H locs cells slots A ls hC hH hl => lv_astore hC.2.1 hC.2.2.1 hd hl hn rfl (fun ls' hl' => kk p e R s m args below meth c H locs cells slots A ls' hC hH (lset_has hl'))
theorem x_iinc {i : Nat} {n : Int} {x c : Int32} (hd : decode Y.2.1 pc = .ok (.iinc i n, 3)) (hg : lget lv i = some (.int x)) (hv : Int32.ofInt n = c) (kk : XJ G d k Y M (lset lv i (.int (x + c))) st (pc + 3) Q) : XJ G d k Y M lv st pc Q := by
  subst hv
  intro p e R s m args below meth c H locs cells slots A ls hC hH hl
  obtain ⟨j, hj⟩ := List.getElem?_of_mem (lget_mem hg)
  exact lv_iinc hC.2.1 hC.2.2.1 hd hl hj rfl (lget_lt hl hg) rfl (fun ls' hl' => kk p e R s m args below meth c H locs cells slots A ls' hC hH (lset_has hl'))
theorem x_iadd {x y : Int32} (hd : decode Y.2.1 pc = .ok (.iadd, 1)) (kk : XJ G d k Y M lv (.int (x + y) :: st) (pc + 1) Q) : XJ G d k Y M lv (.int y :: .int x :: st) pc Q :=
  fun p e R s m args below meth c H locs cells slots A ls hC hH hl => lv_iadd hC.2.1 hC.2.2.1 hd (kk p e R s m args below meth c H locs cells slots A ls hC hH hl)
theorem x_isub {x y : Int32} (hd : decode Y.2.1 pc = .ok (.isub, 1)) (kk : XJ G d k Y M lv (.int (x - y) :: st) (pc + 1) Q) : XJ G d k Y M lv (.int y :: .int x :: st) pc Q :=
  fun p e R s m args below meth c H locs cells slots A ls hC hH hl => lv_isub hC.2.1 hC.2.2.1 hd (kk p e R s m args below meth c H locs cells slots A ls hC hH hl)
theorem x_imul {x y : Int32} (hd : decode Y.2.1 pc = .ok (.imul, 1)) (kk : XJ G d k Y M lv (.int (x * y) :: st) (pc + 1) Q) : XJ G d k Y M lv (.int y :: .int x :: st) pc Q :=
  fun p e R s m args below meth c H locs cells slots A ls hC hH hl => lv_imul hC.2.1 hC.2.2.1 hd (kk p e R s m args below meth c H locs cells slots A ls hC hH hl)
theorem x_iand {x y : Int32} (hd : decode Y.2.1 pc = .ok (.iand, 1)) (kk : XJ G d k Y M lv (.int (x &&& y) :: st) (pc + 1) Q) : XJ G d k Y M lv (.int y :: .int x :: st) pc Q :=
  fun p e R s m args below meth c H locs cells slots A ls hC hH hl => lv_iand hC.2.1 hC.2.2.1 hd (kk p e R s m args below meth c H locs cells slots A ls hC hH hl)
theorem x_ior {x y : Int32} (hd : decode Y.2.1 pc = .ok (.ior, 1)) (kk : XJ G d k Y M lv (.int (x ||| y) :: st) (pc + 1) Q) : XJ G d k Y M lv (.int y :: .int x :: st) pc Q :=
  fun p e R s m args below meth c H locs cells slots A ls hC hH hl => lv_ior hC.2.1 hC.2.2.1 hd (kk p e R s m args below meth c H locs cells slots A ls hC hH hl)
theorem x_ixor {x y : Int32} (hd : decode Y.2.1 pc = .ok (.ixor, 1)) (kk : XJ G d k Y M lv (.int (x ^^^ y) :: st) (pc + 1) Q) : XJ G d k Y M lv (.int y :: .int x :: st) pc Q :=
  fun p e R s m args below meth c H locs cells slots A ls hC hH hl => lv_ixor hC.2.1 hC.2.2.1 hd (kk p e R s m args below meth c H locs cells slots A ls hC hH hl)
theorem x_ishl {x y : Int32} (hd : decode Y.2.1 pc = .ok (.ishl, 1)) (kk : XJ G d k Y M lv (.int (x <<< (y &&& 31)) :: st) (pc + 1) Q) : XJ G d k Y M lv (.int y :: .int x :: st) pc Q :=
  fun p e R s m args below meth c H locs cells slots A ls hC hH hl => lv_ishl hC.2.1 hC.2.2.1 hd (kk p e R s m args below meth c H locs cells slots A ls hC hH hl)
theorem x_ishr {x y : Int32} (hd : decode Y.2.1 pc = .ok (.ishr, 1)) (kk : XJ G d k Y M lv (.int (x >>> (y &&& 31)) :: st) (pc + 1) Q) : XJ G d k Y M lv (.int y :: .int x :: st) pc Q :=
  fun p e R s m args below meth c H locs cells slots A ls hC hH hl => lv_ishr hC.2.1 hC.2.2.1 hd (kk p e R s m args below meth c H locs cells slots A ls hC hH hl)
theorem x_iushr {x y : Int32} (hd : decode Y.2.1 pc = .ok (.iushr, 1)) (kk : XJ G d k Y M lv (.int ((x.toUInt32 >>> (y.toUInt32 &&& Int32.toUInt32 31)).toInt32) :: st) (pc + 1) Q) : XJ G d k Y M lv (.int y :: .int x :: st) pc Q :=
  fun p e R s m args below meth c H locs cells slots A ls hC hH hl => lv_iushr hC.2.1 hC.2.2.1 hd rfl (kk p e R s m args below meth c H locs cells slots A ls hC hH hl)
theorem x_idiv {x y : Int32} (hd : decode Y.2.1 pc = .ok (.idiv, 1)) (hne : ¬ y = 0) (kk : XJ G d k Y M lv (.int (x / y) :: st) (pc + 1) Q) : XJ G d k Y M lv (.int y :: .int x :: st) pc Q :=
  fun p e R s m args below meth c H locs cells slots A ls hC hH hl => lv_idiv hC.2.1 hC.2.2.1 hd hne (kk p e R s m args below meth c H locs cells slots A ls hC hH hl)
theorem x_irem {x y : Int32} (hd : decode Y.2.1 pc = .ok (.irem, 1)) (hne : ¬ y = 0) (kk : XJ G d k Y M lv (.int (x - x / y * y) :: st) (pc + 1) Q) : XJ G d k Y M lv (.int y :: .int x :: st) pc Q :=
  fun p e R s m args below meth c H locs cells slots A ls hC hH hl => lv_irem hC.2.1 hC.2.2.1 hd hne (kk p e R s m args below meth c H locs cells slots A ls hC hH hl)
theorem x_ineg {x : Int32} (hd : decode Y.2.1 pc = .ok (.ineg, 1)) (kk : XJ G d k Y M lv (.int (-x) :: st) (pc + 1) Q) : XJ G d k Y M lv (.int x :: st) pc Q :=
  fun p e R s m args below meth c H locs cells slots A ls hC hH hl => lv_ineg hC.2.1 hC.2.2.1 hd (kk p e R s m args below meth c H locs cells slots A ls hC hH hl)
theorem x_ladd {x y : Int64} (hd : decode Y.2.1 pc = .ok (.ladd, 1)) (kk : XJ G d k Y M lv (.long (x + y) :: st) (pc + 1) Q) : XJ G d k Y M lv (.long y :: .long x :: st) pc Q :=
  fun p e R s m args below meth c H locs cells slots A ls hC hH hl => lv_ladd hC.2.1 hC.2.2.1 hd (kk p e R s m args below meth c H locs cells slots A ls hC hH hl)
theorem x_lsub {x y : Int64} (hd : decode Y.2.1 pc = .ok (.lsub, 1)) (kk : XJ G d k Y M lv (.long (x - y) :: st) (pc + 1) Q) : XJ G d k Y M lv (.long y :: .long x :: st) pc Q :=
  fun p e R s m args below meth c H locs cells slots A ls hC hH hl => lv_lsub hC.2.1 hC.2.2.1 hd (kk p e R s m args below meth c H locs cells slots A ls hC hH hl)
theorem x_lmul {x y : Int64} (hd : decode Y.2.1 pc = .ok (.lmul, 1)) (kk : XJ G d k Y M lv (.long (x * y) :: st) (pc + 1) Q) : XJ G d k Y M lv (.long y :: .long x :: st) pc Q :=
  fun p e R s m args below meth c H locs cells slots A ls hC hH hl => lv_lmul hC.2.1 hC.2.2.1 hd (kk p e R s m args below meth c H locs cells slots A ls hC hH hl)
theorem x_land {x y : Int64} (hd : decode Y.2.1 pc = .ok (.land, 1)) (kk : XJ G d k Y M lv (.long (x &&& y) :: st) (pc + 1) Q) : XJ G d k Y M lv (.long y :: .long x :: st) pc Q :=
  fun p e R s m args below meth c H locs cells slots A ls hC hH hl => lv_land hC.2.1 hC.2.2.1 hd (kk p e R s m args below meth c H locs cells slots A ls hC hH hl)
theorem x_lor {x y : Int64} (hd : decode Y.2.1 pc = .ok (.lor, 1)) (kk : XJ G d k Y M lv (.long (x ||| y) :: st) (pc + 1) Q) : XJ G d k Y M lv (.long y :: .long x :: st) pc Q :=
  fun p e R s m args below meth c H locs cells slots A ls hC hH hl => lv_lor hC.2.1 hC.2.2.1 hd (kk p e R s m args below meth c H locs cells slots A ls hC hH hl)
theorem x_ldiv {x y : Int64} (hd : decode Y.2.1 pc = .ok (.ldiv, 1)) (hne : ¬ y = 0) (kk : XJ G d k Y M lv (.long (x / y) :: st) (pc + 1) Q) : XJ G d k Y M lv (.long y :: .long x :: st) pc Q :=
  fun p e R s m args below meth c H locs cells slots A ls hC hH hl => lv_ldiv hC.2.1 hC.2.2.1 hd hne (kk p e R s m args below meth c H locs cells slots A ls hC hH hl)
theorem x_lrem {x y : Int64} (hd : decode Y.2.1 pc = .ok (.lrem, 1)) (hne : ¬ y = 0) (kk : XJ G d k Y M lv (.long (x - x / y * y) :: st) (pc + 1) Q) : XJ G d k Y M lv (.long y :: .long x :: st) pc Q :=
  fun p e R s m args below meth c H locs cells slots A ls hC hH hl => lv_lrem hC.2.1 hC.2.2.1 hd hne (kk p e R s m args below meth c H locs cells slots A ls hC hH hl)
theorem x_lshl {x : Int64} {y : Int32} (hd : decode Y.2.1 pc = .ok (.lshl, 1)) (kk : XJ G d k Y M lv (.long (x <<< (y.toInt64 &&& 63)) :: st) (pc + 1) Q) : XJ G d k Y M lv (.int y :: .long x :: st) pc Q :=
  fun p e R s m args below meth c H locs cells slots A ls hC hH hl => lv_lshl hC.2.1 hC.2.2.1 hd rfl (kk p e R s m args below meth c H locs cells slots A ls hC hH hl)
theorem x_lushr {x : Int64} {y : Int32} (hd : decode Y.2.1 pc = .ok (.lushr, 1)) (kk : XJ G d k Y M lv (.long ((x.toUInt64 >>> (y.toInt64.toUInt64 &&& Int64.toUInt64 63)).toInt64) :: st) (pc + 1) Q) : XJ G d k Y M lv (.int y :: .long x :: st) pc Q :=
  fun p e R s m args below meth c H locs cells slots A ls hC hH hl => lv_lushr hC.2.1 hC.2.2.1 hd rfl (kk p e R s m args below meth c H locs cells slots A ls hC hH hl)
theorem x_lneg {x : Int64} (hd : decode Y.2.1 pc = .ok (.lneg, 1)) (kk : XJ G d k Y M lv (.long (-x) :: st) (pc + 1) Q) : XJ G d k Y M lv (.long x :: st) pc Q :=
  fun p e R s m args below meth c H locs cells slots A ls hC hH hl => lv_lneg hC.2.1 hC.2.2.1 hd (kk p e R s m args below meth c H locs cells slots A ls hC hH hl)
theorem x_lcmp {x y : Int64} (hd : decode Y.2.1 pc = .ok (.lcmp, 1)) (kk : XJ G d k Y M lv (.int (lg_cmp x y) :: st) (pc + 1) Q) : XJ G d k Y M lv (.long y :: .long x :: st) pc Q :=
  fun p e R s m args below meth c H locs cells slots A ls hC hH hl => W.lcmp hC.2.1 hC.2.2.1 hd (kk p e R s m args below meth c H locs cells slots A ls hC hH hl)
theorem x_i2l {x : Int32} (hd : decode Y.2.1 pc = .ok (.i2l, 1)) (kk : XJ G d k Y M lv (.long x.toInt64 :: st) (pc + 1) Q) : XJ G d k Y M lv (.int x :: st) pc Q :=
  fun p e R s m args below meth c H locs cells slots A ls hC hH hl => lv_i2l hC.2.1 hC.2.2.1 hd rfl (kk p e R s m args below meth c H locs cells slots A ls hC hH hl)
theorem x_l2i {x : Int64} (hd : decode Y.2.1 pc = .ok (.l2i, 1)) (kk : XJ G d k Y M lv (.int x.toInt32 :: st) (pc + 1) Q) : XJ G d k Y M lv (.long x :: st) pc Q :=
  fun p e R s m args below meth c H locs cells slots A ls hC hH hl => lv_l2i hC.2.1 hC.2.2.1 hd rfl (kk p e R s m args below meth c H locs cells slots A ls hC hH hl)
theorem x_i2c {x : Int32} (hd : decode Y.2.1 pc = .ok (.i2c, 1)) (kk : XJ G d k Y M lv (.int ((x.toUInt32 % 65536).toInt32) :: st) (pc + 1) Q) : XJ G d k Y M lv (.int x :: st) pc Q :=
  fun p e R s m args below meth c H locs cells slots A ls hC hH hl => lv_i2c hC.2.1 hC.2.2.1 hd rfl (kk p e R s m args below meth c H locs cells slots A ls hC hH hl)
theorem x_i2b {x : Int32} (hd : decode Y.2.1 pc = .ok (.i2b, 1)) (kk : XJ G d k Y M lv (.int x.toInt8.toInt32 :: st) (pc + 1) Q) : XJ G d k Y M lv (.int x :: st) pc Q :=
  fun p e R s m args below meth c H locs cells slots A ls hC hH hl => lv_i2b hC.2.1 hC.2.2.1 hd rfl (kk p e R s m args below meth c H locs cells slots A ls hC hH hl)
theorem x_dup {v : Value} (hd : decode Y.2.1 pc = .ok (.dup, 1)) (hv : v.category = 1) (kk : XJ G d k Y M lv (v :: v :: st) (pc + 1) Q) : XJ G d k Y M lv (v :: st) pc Q :=
  fun p e R s m args below meth c H locs cells slots A ls hC hH hl => lv_dup hC.2.1 hC.2.2.1 hd hv (kk p e R s m args below meth c H locs cells slots A ls hC hH hl)
theorem x_dup_x1 {v w : Value} (hd : decode Y.2.1 pc = .ok (.dup_x1, 1)) (hv : v.category = 1) (hw : w.category = 1) (kk : XJ G d k Y M lv (v :: w :: v :: st) (pc + 1) Q) : XJ G d k Y M lv (v :: w :: st) pc Q :=
  fun p e R s m args below meth c H locs cells slots A ls hC hH hl => lv_dup_x1 hC.2.1 hC.2.2.1 hd hv hw (kk p e R s m args below meth c H locs cells slots A ls hC hH hl)
theorem x_pop {v : Value} (hd : decode Y.2.1 pc = .ok (.pop, 1)) (hv : v.category = 1) (kk : XJ G d k Y M lv st (pc + 1) Q) : XJ G d k Y M lv (v :: st) pc Q :=
  fun p e R s m args below meth c H locs cells slots A ls hC hH hl => lv_pop hC.2.1 hC.2.2.1 hd hv (kk p e R s m args below meth c H locs cells slots A ls hC hH hl)
theorem x_goto {off : Int} {tgt : Nat} (hd : decode Y.2.1 pc = .ok (.goto off, 3)) (ht : (pc : Int) + off = (tgt : Int)) (kk : XJ G d k Y M lv st tgt Q) : XJ G d k Y M lv st pc Q :=
  fun p e R s m args below meth c H locs cells slots A ls hC hH hl => lv_goto hC.2.1 hC.2.2.1 hd ht (kk p e R s m args below meth c H locs cells slots A ls hC hH hl)
theorem x_if_eq {x : Int32} {off : Int} {tgt : Nat} (hd : decode Y.2.1 pc = .ok (.ifCond .eq off, 3)) (ht : (pc : Int) + off = (tgt : Int)) (kt : (x = 0) → XJ G d k Y M lv st tgt Q) (kf : ¬ (x = 0) → XJ G d k Y M lv st (pc + 3) Q) : XJ G d k Y M lv (.int x :: st) pc Q :=
  fun p e R s m args below meth c H locs cells slots A ls hC hH hl => lv_if_eq hC.2.1 hC.2.2.1 hd ht (fun z => kt z p e R s m args below meth c H locs cells slots A ls hC hH hl) (fun z => kf z p e R s m args below meth c H locs cells slots A ls hC hH hl)
theorem x_icmp_eq {x y : Int32} {off : Int} {tgt : Nat} (hd : decode Y.2.1 pc = .ok (.if_icmp .eq off, 3)) (ht : (pc : Int) + off = (tgt : Int)) (kt : (x = y) → XJ G d k Y M lv st tgt Q) (kf : ¬ (x = y) → XJ G d k Y M lv st (pc + 3) Q) : XJ G d k Y M lv (.int y :: .int x :: st) pc Q :=
  fun p e R s m args below meth c H locs cells slots A ls hC hH hl => lv_icmp_eq hC.2.1 hC.2.2.1 hd ht (fun z => kt z p e R s m args below meth c H locs cells slots A ls hC hH hl) (fun z => kf z p e R s m args below meth c H locs cells slots A ls hC hH hl)
theorem x_if_ne {x : Int32} {off : Int} {tgt : Nat} (hd : decode Y.2.1 pc = .ok (.ifCond .ne off, 3)) (ht : (pc : Int) + off = (tgt : Int)) (kt : (¬ x = 0) → XJ G d k Y M lv st tgt Q) (kf : (x = 0) → XJ G d k Y M lv st (pc + 3) Q) : XJ G d k Y M lv (.int x :: st) pc Q :=
  fun p e R s m args below meth c H locs cells slots A ls hC hH hl => lv_if_ne hC.2.1 hC.2.2.1 hd ht (fun z => kt z p e R s m args below meth c H locs cells slots A ls hC hH hl) (fun z => kf z p e R s m args below meth c H locs cells slots A ls hC hH hl)
theorem x_icmp_ne {x y : Int32} {off : Int} {tgt : Nat} (hd : decode Y.2.1 pc = .ok (.if_icmp .ne off, 3)) (ht : (pc : Int) + off = (tgt : Int)) (kt : (¬ x = y) → XJ G d k Y M lv st tgt Q) (kf : (x = y) → XJ G d k Y M lv st (pc + 3) Q) : XJ G d k Y M lv (.int y :: .int x :: st) pc Q :=
  fun p e R s m args below meth c H locs cells slots A ls hC hH hl => lv_icmp_ne hC.2.1 hC.2.2.1 hd ht (fun z => kt z p e R s m args below meth c H locs cells slots A ls hC hH hl) (fun z => kf z p e R s m args below meth c H locs cells slots A ls hC hH hl)
theorem x_if_lt {x : Int32} {off : Int} {tgt : Nat} (hd : decode Y.2.1 pc = .ok (.ifCond .lt off, 3)) (ht : (pc : Int) + off = (tgt : Int)) (kt : (x < 0) → XJ G d k Y M lv st tgt Q) (kf : ¬ (x < 0) → XJ G d k Y M lv st (pc + 3) Q) : XJ G d k Y M lv (.int x :: st) pc Q :=
  fun p e R s m args below meth c H locs cells slots A ls hC hH hl => lv_if_lt hC.2.1 hC.2.2.1 hd ht (fun z => kt z p e R s m args below meth c H locs cells slots A ls hC hH hl) (fun z => kf z p e R s m args below meth c H locs cells slots A ls hC hH hl)
theorem x_icmp_lt {x y : Int32} {off : Int} {tgt : Nat} (hd : decode Y.2.1 pc = .ok (.if_icmp .lt off, 3)) (ht : (pc : Int) + off = (tgt : Int)) (kt : (x < y) → XJ G d k Y M lv st tgt Q) (kf : ¬ (x < y) → XJ G d k Y M lv st (pc + 3) Q) : XJ G d k Y M lv (.int y :: .int x :: st) pc Q :=
  fun p e R s m args below meth c H locs cells slots A ls hC hH hl => lv_icmp_lt hC.2.1 hC.2.2.1 hd ht (fun z => kt z p e R s m args below meth c H locs cells slots A ls hC hH hl) (fun z => kf z p e R s m args below meth c H locs cells slots A ls hC hH hl)
theorem x_if_ge {x : Int32} {off : Int} {tgt : Nat} (hd : decode Y.2.1 pc = .ok (.ifCond .ge off, 3)) (ht : (pc : Int) + off = (tgt : Int)) (kt : (0 ≤ x) → XJ G d k Y M lv st tgt Q) (kf : ¬ (0 ≤ x) → XJ G d k Y M lv st (pc + 3) Q) : XJ G d k Y M lv (.int x :: st) pc Q :=
  fun p e R s m args below meth c H locs cells slots A ls hC hH hl => lv_if_ge hC.2.1 hC.2.2.1 hd ht (fun z => kt z p e R s m args below meth c H locs cells slots A ls hC hH hl) (fun z => kf z p e R s m args below meth c H locs cells slots A ls hC hH hl)
theorem x_icmp_ge {x y : Int32} {off : Int} {tgt : Nat} (hd : decode Y.2.1 pc = .ok (.if_icmp .ge off, 3)) (ht : (pc : Int) + off = (tgt : Int)) (kt : (y ≤ x) → XJ G d k Y M lv st tgt Q) (kf : ¬ (y ≤ x) → XJ G d k Y M lv st (pc + 3) Q) : XJ G d k Y M lv (.int y :: .int x :: st) pc Q :=
  fun p e R s m args below meth c H locs cells slots A ls hC hH hl => lv_icmp_ge hC.2.1 hC.2.2.1 hd ht (fun z => kt z p e R s m args below meth c H locs cells slots A ls hC hH hl) (fun z => kf z p e R s m args below meth c H locs cells slots A ls hC hH hl)
theorem x_if_gt {x : Int32} {off : Int} {tgt : Nat} (hd : decode Y.2.1 pc = .ok (.ifCond .gt off, 3)) (ht : (pc : Int) + off = (tgt : Int)) (kt : (0 < x) → XJ G d k Y M lv st tgt Q) (kf : ¬ (0 < x) → XJ G d k Y M lv st (pc + 3) Q) : XJ G d k Y M lv (.int x :: st) pc Q :=
  fun p e R s m args below meth c H locs cells slots A ls hC hH hl => lv_if_gt hC.2.1 hC.2.2.1 hd ht (fun z => kt z p e R s m args below meth c H locs cells slots A ls hC hH hl) (fun z => kf z p e R s m args below meth c H locs cells slots A ls hC hH hl)
theorem x_icmp_gt {x y : Int32} {off : Int} {tgt : Nat} (hd : decode Y.2.1 pc = .ok (.if_icmp .gt off, 3)) (ht : (pc : Int) + off = (tgt : Int)) (kt : (y < x) → XJ G d k Y M lv st tgt Q) (kf : ¬ (y < x) → XJ G d k Y M lv st (pc + 3) Q) : XJ G d k Y M lv (.int y :: .int x :: st) pc Q :=
  fun p e R s m args below meth c H locs cells slots A ls hC hH hl => lv_icmp_gt hC.2.1 hC.2.2.1 hd ht (fun z => kt z p e R s m args below meth c H locs cells slots A ls hC hH hl) (fun z => kf z p e R s m args below meth c H locs cells slots A ls hC hH hl)
theorem x_if_le {x : Int32} {off : Int} {tgt : Nat} (hd : decode Y.2.1 pc = .ok (.ifCond .le off, 3)) (ht : (pc : Int) + off = (tgt : Int)) (kt : (x ≤ 0) → XJ G d k Y M lv st tgt Q) (kf : ¬ (x ≤ 0) → XJ G d k Y M lv st (pc + 3) Q) : XJ G d k Y M lv (.int x :: st) pc Q :=
  fun p e R s m args below meth c H locs cells slots A ls hC hH hl => lv_if_le hC.2.1 hC.2.2.1 hd ht (fun z => kt z p e R s m args below meth c H locs cells slots A ls hC hH hl) (fun z => kf z p e R s m args below meth c H locs cells slots A ls hC hH hl)
theorem x_icmp_le {x y : Int32} {off : Int} {tgt : Nat} (hd : decode Y.2.1 pc = .ok (.if_icmp .le off, 3)) (ht : (pc : Int) + off = (tgt : Int)) (kt : (x ≤ y) → XJ G d k Y M lv st tgt Q) (kf : ¬ (x ≤ y) → XJ G d k Y M lv st (pc + 3) Q) : XJ G d k Y M lv (.int y :: .int x :: st) pc Q :=
  fun p e R s m args below meth c H locs cells slots A ls hC hH hl => lv_icmp_le hC.2.1 hC.2.2.1 hd ht (fun z => kt z p e R s m args below meth c H locs cells slots A ls hC hH hl) (fun z => kf z p e R s m args below meth c H locs cells slots A ls hC hH hl)
end XR
