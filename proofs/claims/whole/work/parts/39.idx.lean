/-! words not printed before; calls on old objects; a literal's text; String.indexOf -/
theorem tb52 : (Cond.fieldLink "java/util/ArrayList" (39 : Nat) "java/util/ArrayList" "DEFAULTCAPACITY_EMPTY_ELEMENTDATA" "[Ljava/lang/Object;") ∈ lw_tbl := tb_r (List.mem_of_getElem? (i := 52) (by decide +kernel))
theorem tb56 : (Cond.fieldLink "java/util/AbstractList" (7 : Nat) "java/util/AbstractList" "modCount" "I") ∈ lw_tbl := tb_r (List.mem_of_getElem? (i := 56) (by decide +kernel))
theorem tb140 : (Cond.classLink "DiaryHouse" (55 : Nat) "[[I") ∈ lw_tbl := tb_r (List.mem_of_getElem? (i := 140) (by decide +kernel))
theorem tb151 : (Cond.fieldLink "java/lang/String" (38 : Nat) "java/lang/String" "COMPACT_STRINGS" "Z") ∈ lw_tbl := tb_r (List.mem_of_getElem? (i := 151) (by decide +kernel))
theorem tb317 : (Cond.classLink "java/util/Arrays" (2 : Nat) "java/lang/Object") ∈ lw_tbl := tb_r (List.mem_of_getElem? (i := 317) (by decide +kernel))
theorem tb325 : (Cond.classLink "java/util/ArrayList" (7 : Nat) "java/lang/Object") ∈ lw_tbl := tb_r (List.mem_of_getElem? (i := 325) (by decide +kernel))
theorem tb1018 : (Cond.fieldLink "DiaryHouse" (396 : Nat) "DiaryHouse" "HIDING_ORDER" "[I") ∈ lw_tbl := tb_r (List.mem_of_getElem? (i := 1018) (by decide +kernel))
theorem tb1779 : (Cond.fieldLink "java/lang/String" (9 : Nat) "java/lang/String" "value" "[B") ∈ lw_tbl := tb_r (List.mem_of_getElem? (i := 1779) (by decide +kernel))
theorem tb1780 : (Cond.fieldLink "java/lang/String" (15 : Nat) "java/lang/String" "coder" "B") ∈ lw_tbl := tb_r (List.mem_of_getElem? (i := 1780) (by decide +kernel))
def OldO (G : Gam) (nm : String) (a : Nat) : Prop := va_O nm a (oldA G) G.2.1 G.2.1.heap
/-- the text bs at a -/
def StrA (G : Gam) (a : Nat) (bs : List Int32) : Prop := ∃ v : Nat, OldO G "java/lang/String" a ∧ OldF G "java/lang/String" "coder" "B" (.int 0) a ∧ OldF G "java/lang/String" "value" "[B" (.ref v) a ∧ OldT G .byte v bs.length (fun j => .int (bs.getD j 0))
def Lit (G : Gam) (own : String) (idx : Nat) (bs : List Int32) : Prop := ∃ (tx : String) (a : Nat), vk_R own idx tx a G.2.1 ∧ StrA G a bs
def ZCom (G : Gam) : Prop := OldZ G "java/lang/String" "COMPACT_STRINGS" "Z" (.int 1)
section OVR
variable {G : Gam} {d : Nat} {k : Nat × Nat} {Y : MR} {M : Mem} {lv : Lv} {pc : Nat} {Q : Option Value → Mem → Prop} {rest : List Value} {mc ms : Nat}
theorem x_callO {Y2 : MR} {n idx b : Nat} (As : List Value) (hd : decode Y.2.1 pc = .ok (.invokevirtual idx, 3)) (hL : LkV Y.1.cls idx Y2 n) {nm : String} (hO : OldO G nm b) (hqc : nm = Y2.1.cls) (hn : As.length = n) (hs : (rest.map fun v => v.category).sum ≤ 8) (hk : mc ≤ k.1 ∧ ms ≤ k.2) {st0 : List Value} (he : st0 = As.reverse ++ .ref b :: rest)
    (hM : CT G d (mc, ms) Y2 (.ref b :: As) M (fun r M' => XJ G (d + 1) (k.1 - mc, k.2 - ms) Y M' lv (rpush r rest) (pc + 3) Q)) : XJ G (d + 1) k Y M lv st0 pc Q := by
  intro p e R s m args below meth c H locs cells slots A ls hC hH hl
  have hW := hC.2.2.2.2.2.2.2.2.1
  refine x_ofRun (rest := rest) hC hH hl hk (a := (Value.ref b :: As).toArray) ?_
  have hp := x_pre hC hH (.ref b :: As)
  have hO2 := oldX hC.2.2.2.2.2.2.2.2.2.2.2.2.2 hH.2.2.1 hC.2.2.2.2.2.2.2.2.2.2.2.2.1
  obtain ⟨cell, g1, g2, g3, -⟩ := va_O.moved hW.alike (va_O.kept hO (old_q hO2))
  have hrc : ∃ cell : Cell, H[b]? = some cell ∧ cell.vm.isStatics = false ∧ s.vm.findClass Y2.1.cls = some cell.cls := ⟨cell, g1, g2, by rw [← hqc]; exact g3⟩
  exact va_runV (As := As) (rest := rest) (b := b) ⟨hC.2.1, hC.2.2.1, hC.2.2.2.2.1, hC.2.2.2.2.2.1, fun w hw => absurd hw List.not_mem_nil⟩ (Ts := []) (hM H.size) ⟨x_cb hC hL.1 hL.2.2.2, tb_good hC.1 hL.2.1 rfl hW, tb_good hC.1 hL.2.2.1 rfl hW⟩ ⟨hp.1, hrc, hp.2⟩ rfl hn hl.1 he (lv_room hs) hd ⟨Nat.le_trans (Nat.add_le_add_left hk.1 _) hH.2.2.2.1, Nat.le_trans (Nat.add_le_add_left hk.2 _) hH.2.2.2.2⟩
theorem x_oV0 {Y2 : MR} {idx b : Nat} {nm : String} (hd : decode Y.2.1 pc = .ok (.invokevirtual idx, 3)) (hL : LkV Y.1.cls idx Y2 0) (hO : OldO G nm b) (hqc : nm = Y2.1.cls) (hs : Nat.ble (catS rest) 8 = true) (hM : CT G d (0, 0) Y2 (.ref b :: []) M (fun r M' => XJ G (d + 1) k Y M' lv (rpush r rest) (pc + 3) Q)) : XJ G (d + 1) k Y M lv (.ref b :: rest) pc Q :=
  x_callO [] hd hL hO hqc rfl (catS_8 hs) ⟨Nat.zero_le _, Nat.zero_le _⟩ rfl hM
theorem x_oV1 {Y2 : MR} {idx b : Nat} {nm : String} {a1 : Value} (hd : decode Y.2.1 pc = .ok (.invokevirtual idx, 3)) (hL : LkV Y.1.cls idx Y2 1) (hO : OldO G nm b) (hqc : nm = Y2.1.cls) (hs : Nat.ble (catS rest) 8 = true) (hM : CT G d (0, 0) Y2 (.ref b :: [a1]) M (fun r M' => XJ G (d + 1) k Y M' lv (rpush r rest) (pc + 3) Q)) : XJ G (d + 1) k Y M lv (a1 :: .ref b :: rest) pc Q :=
  x_callO [a1] hd hL hO hqc rfl (catS_8 hs) ⟨Nat.zero_le _, Nat.zero_le _⟩ rfl hM
theorem x_oV2 {Y2 : MR} {idx b : Nat} {nm : String} {a1 a2 : Value} (hd : decode Y.2.1 pc = .ok (.invokevirtual idx, 3)) (hL : LkV Y.1.cls idx Y2 2) (hO : OldO G nm b) (hqc : nm = Y2.1.cls) (hs : Nat.ble (catS rest) 8 = true) (hM : CT G d (0, 0) Y2 (.ref b :: [a1, a2]) M (fun r M' => XJ G (d + 1) k Y M' lv (rpush r rest) (pc + 3) Q)) : XJ G (d + 1) k Y M lv (a2 :: a1 :: .ref b :: rest) pc Q :=
  x_callO [a1, a2] hd hL hO hqc rfl (catS_8 hs) ⟨Nat.zero_le _, Nat.zero_le _⟩ rfl hM
end OVR
/-- the first place of c in bs from i on; f places are looked at -/
def sxF (bs : List Int32) (c : Int32) : Nat → Nat → Int32
  | 0, _ => -1
  | f + 1, i => if bs.getD i 0 = c then nI i else sxF bs c f (i + 1)
theorem sxF_none {bs : List Int32} {c : Int32} : ∀ (f i : Nat), (∀ j, j < f → ¬ bs.getD (i + j) 0 = c) → sxF bs c f i = -1
  | 0, _, _ => rfl
  | f + 1, i, h => by
    unfold sxF
    rw [if_neg (show ¬ bs.getD i 0 = c from h 0 (Nat.succ_pos f))]
    exact sxF_none f (i + 1) (fun j hj => by rw [Nat.add_assoc, Nat.add_comm 1 j]; exact h (j + 1) (Nat.succ_lt_succ hj))
theorem sxF_c {bs : List Int32} {c e : Int32} : ∀ (f i : Nat), (∀ j, j < f → (bs.getD (i + j) 0 = c ↔ bs.getD (i + j) 0 = e)) → sxF bs c f i = sxF bs e f i
  | 0, _, _ => rfl
  | f + 1, i, h => by
    unfold sxF
    have h0 := h 0 (Nat.succ_pos f)
    simp only [Nat.add_zero] at h0
    have hr := sxF_c (bs := bs) (c := c) (e := e) f (i + 1) (fun j hj => by
      have := h (j + 1) (Nat.succ_lt_succ hj)
      rw [Nat.add_comm j 1, ← Nat.add_assoc] at this
      exact this)
    rw [hr]
    by_cases z : bs.getD i 0 = c
    · rw [if_pos z, if_pos (h0.mp z)]
    · rw [if_neg z, if_neg (fun y => z (h0.mpr y))]
/-- a byte below 128 is the sign itself -/
theorem byte_sign {b c : Int32} (hb0 : 0 ≤ b) (hb : b ≤ 127) (hc0 : 0 ≤ c) (hc : c ≤ 255) : b = c.toInt8.toInt32 ↔ b = c := by
  rw [← Int32.toInt_inj, ← Int32.toInt_inj, Int8.toInt_toInt32, Int32.toInt_toInt8]
  rw [Int32.le_iff_toInt_le] at hb0 hb hc0 hc
  have e0 : (0 : Int32).toInt = 0 := rfl
  have e1 : (127 : Int32).toInt = 127 := rfl
  have e2 : (255 : Int32).toInt = 255 := rfl
  rw [e0] at hb0 hc0
  rw [e1] at hb
  rw [e2] at hc
  have e8 : ((2 ^ 8 : Nat) : Int) = 256 := rfl
  simp only [Int.bmod, e8]
  split <;> omega
section STRX
variable {G : Gam} {d : Nat} {k : Nat × Nat} {a : Nat} {bs : List Int32} {M : Mem} {Q : Option Value → Mem → Prop}
theorem c_J0_isLatin1 (hz : ZCom G) (hs : StrA G a bs) (hq : Q (some (.int 1)) M) : CT G d (0, 0) MJ0_isLatin1_aae02 [.ref a] M Q := by
  obtain ⟨v, -, hc, -, -⟩ := hs
  refine CT.of rfl (Nat.le_of_ble_eq_true rfl) ?_
  refine x_gets dJ0_isLatin1_aae02_0 hz tb151 rfl ?_
  refine x_if_eq (tgt := 17) dJ0_isLatin1_aae02_3 (by decide) (fun z => absurd z (by decide)) (fun _ => ?_)
  refine x_aload_n dJ0_isLatin1_aae02_6 rfl rfl ?_
  refine x_ogetf dJ0_isLatin1_aae02_7 hc tb1780 rfl ?_
  refine x_if_ne (tgt := 17) dJ0_isLatin1_aae02_10 (by decide) (fun z => absurd (by decide) z) (fun _ => ?_)
  refine x_iconst (v := 1) dJ0_isLatin1_aae02_13 (by decide) ?_
  refine x_goto (tgt := 18) dJ0_isLatin1_aae02_14 (by decide) ?_
  exact x_ireturn dJ0_isLatin1_aae02_18 rfl rfl (hq)
theorem c_J0_coder (hz : ZCom G) (hs : StrA G a bs) (hq : Q (some (.int 0)) M) : CT G d (0, 0) MJ0_coder_7d493 [.ref a] M Q := by
  obtain ⟨v, -, hc, -, -⟩ := hs
  refine CT.of rfl (Nat.le_of_ble_eq_true rfl) ?_
  refine x_gets dJ0_coder_7d493_0 hz tb151 rfl ?_
  refine x_if_eq (tgt := 13) dJ0_coder_7d493_3 (by decide) (fun z => absurd z (by decide)) (fun _ => ?_)
  refine x_aload_n dJ0_coder_7d493_6 rfl rfl ?_
  refine x_ogetf dJ0_coder_7d493_7 hc tb1780 rfl ?_
  refine x_goto (tgt := 14) dJ0_coder_7d493_10 (by decide) ?_
  exact x_ireturn dJ0_coder_7d493_14 rfl rfl (hq)
theorem c_J0_length (hz : ZCom G) (hs : StrA G a bs) (hq : Q (some (.int (nI bs.length))) M) : CT G (d + 1) (0, 0) MJ0_length_8abf5 [.ref a] M Q := by
  have hs' := hs
  obtain ⟨v, ho, hc, hv, ht⟩ := hs
  refine CT.of rfl (Nat.le_of_ble_eq_true rfl) ?_
  refine x_aload_n dJ0_length_8abf5_0 rfl rfl ?_
  refine x_ogetf dJ0_length_8abf5_1 hv tb1779 rfl ?_
  refine x_olen dJ0_length_8abf5_4 ht rfl ?_
  refine x_aload_n dJ0_length_8abf5_5 rfl rfl ?_
  refine x_oV0 dJ0_length_8abf5_6 lv_J0_335 ho rfl rfl  (c_J0_coder hz hs' ?_)
  refine x_ishr dJ0_length_8abf5_9 ?_
  exact x_ireturn dJ0_length_8abf5_10 rfl rfl (by
have e : (Int32.ofNat bs.length >>> ((0 : Int32) &&& 31)) = nI bs.length := by
  have e1 : ((0 : Int32) &&& 31) = 0 := by decide
  rw [e1]
  exact Int32.shiftRight_zero
first | exact e ▸ hq | exact hq)
theorem c_J1_canEncode {c : Int32} (hq : Q (some (.int (bI (0 ≤ c ∧ c ≤ 255)))) M) : CT G d (0, 0) MJ1_canEncode_9a6ad [.int c] M Q := by
  refine CT.of rfl (Nat.le_of_ble_eq_true rfl) ?_
  refine x_iload_n dJ1_canEncode_9a6ad_0 rfl rfl ?_
  refine x_if_lt (tgt := 15) dJ1_canEncode_9a6ad_1 (by decide) (fun h1 => ?_) (fun h1 => ?_)
  · refine x_iconst (v := 0) dJ1_canEncode_9a6ad_15 (by decide) ?_
    exact x_ireturn dJ1_canEncode_9a6ad_16 rfl rfl (by
first
| (rw [bI_t ⟨Int32.not_lt.mp h1, Int32.not_lt.mp h8⟩] at hq; exact hq)
| (rw [bI_f (fun z => absurd h1 (Int32.not_lt.mpr z.1))] at hq; exact hq)
| (rw [bI_f (fun z => absurd h8 (Int32.not_lt.mpr z.2))] at hq; exact hq))
  · refine x_iload_n dJ1_canEncode_9a6ad_4 rfl rfl ?_
    refine x_sipush (v := 255) dJ1_canEncode_9a6ad_5 (by decide) ?_
    refine x_icmp_gt (tgt := 15) dJ1_canEncode_9a6ad_8 (by decide) (fun h8 => ?_) (fun h8 => ?_)
    · refine x_iconst (v := 0) dJ1_canEncode_9a6ad_15 (by decide) ?_
      exact x_ireturn dJ1_canEncode_9a6ad_16 rfl rfl (by
first
| (rw [bI_t ⟨Int32.not_lt.mp h1, Int32.not_lt.mp h8⟩] at hq; exact hq)
| (rw [bI_f (fun z => absurd h1 (Int32.not_lt.mpr z.1))] at hq; exact hq)
| (rw [bI_f (fun z => absurd h8 (Int32.not_lt.mpr z.2))] at hq; exact hq))
    · refine x_iconst (v := 1) dJ1_canEncode_9a6ad_11 (by decide) ?_
      refine x_goto (tgt := 16) dJ1_canEncode_9a6ad_12 (by decide) ?_
      exact x_ireturn dJ1_canEncode_9a6ad_16 rfl rfl (by
first
| (rw [bI_t ⟨Int32.not_lt.mp h1, Int32.not_lt.mp h8⟩] at hq; exact hq)
| (rw [bI_f (fun z => absurd h1 (Int32.not_lt.mpr z.1))] at hq; exact hq)
| (rw [bI_f (fun z => absurd h8 (Int32.not_lt.mpr z.2))] at hq; exact hq))
theorem c_J1_indexOfChar {v : Nat} {c : Int32} (hN : bs.length < 2 ^ 31) (ht : OldT G .byte v bs.length (fun j => .int (bs.getD j 0))) (hq : Q (some (.int (sxF bs c.toInt8.toInt32 bs.length 0))) M) : CT G d (0, 0) MJ1_indexOfChar_4cfef [.ref v, .int c, .int 0, .int (nI bs.length)] M Q := by
  refine CT.of rfl (Nat.le_of_ble_eq_true rfl) ?_
  refine x_iload_n dJ1_indexOfChar_4cfef_0 rfl rfl ?_
  refine x_i2b dJ1_indexOfChar_4cfef_1 ?_
  refine x_istore dJ1_indexOfChar_4cfef_2 (by decide) ?_
  refine x_iload_n dJ1_indexOfChar_4cfef_4 rfl rfl ?_
  refine x_istore dJ1_indexOfChar_4cfef_5 (by decide) ?_
  refine x_loc [(0, .ref v), (3, .int (nI bs.length)), (4, .int c.toInt8.toInt32), (5, .int (nI 0))] ⟨rfl, rfl, rfl, rfl, trivial⟩ ?_
  suffices H : ∀ f i, f + i = bs.length → Q (some (.int (sxF bs c.toInt8.toInt32 f i))) M → XJ G d (0, 0) MJ1_indexOfChar_4cfef M [(0, .ref v), (3, .int (nI bs.length)), (4, .int c.toInt8.toInt32), (5, .int (nI i))] [] 7 Q from H bs.length 0 rfl hq
  intro f
  induction f with
  | zero =>
    intro i hi hq
    refine x_iload dJ1_indexOfChar_4cfef_7 rfl ?_
    refine x_iload_n dJ1_indexOfChar_4cfef_9 rfl rfl ?_
    refine x_icmp_ge (tgt := 31) dJ1_indexOfChar_4cfef_10 (by decide) (fun _ => ?_) (fun z => absurd (by rw [← hi, Nat.zero_add]; exact Int32.le_refl _) z)
    refine x_iconst (v := -1) dJ1_indexOfChar_4cfef_31 (by decide) ?_
    exact x_ireturn dJ1_indexOfChar_4cfef_32 rfl rfl (hq)
  | succ f ih =>
    intro i hi hq
    have hlt : i < bs.length := by omega
    have hin : vp_in (nI i) bs.length := vp_in_nI hlt hN
    have hcl : (nI i).toNatClampNeg = i := nI_clamp (by omega)
    unfold sxF at hq
    refine x_iload dJ1_indexOfChar_4cfef_7 rfl ?_
    refine x_iload_n dJ1_indexOfChar_4cfef_9 rfl rfl ?_
    refine x_icmp_ge (tgt := 31) dJ1_indexOfChar_4cfef_10 (by decide) (fun z => absurd z (nI_ge hlt hN)) (fun _ => ?_)
    refine x_aload_n dJ1_indexOfChar_4cfef_13 rfl rfl ?_
    refine x_iload dJ1_indexOfChar_4cfef_14 rfl ?_
    refine x_obald dJ1_indexOfChar_4cfef_16 ht hin (by rw [hcl]) ?_
    refine x_iload dJ1_indexOfChar_4cfef_17 rfl ?_
    refine x_icmp_ne (tgt := 25) dJ1_indexOfChar_4cfef_19 (by decide) (fun h19 => ?_) (fun h19 => ?_)
    · refine x_iinc (c := 1) dJ1_indexOfChar_4cfef_25 rfl (by decide) ?_
      refine x_goto (tgt := 7) dJ1_indexOfChar_4cfef_28 (by decide) ?_
      rw [if_neg h19] at hq
      refine x_loc _ (?_ : lle _ _) (ih (i + 1) (by omega) hq)
      refine ⟨rfl, rfl, rfl, ?_, trivial⟩
      show some (Value.int _) = some (Value.int (nI (i + 1)))
      rw [← nI_1]
    · refine x_iload dJ1_indexOfChar_4cfef_22 rfl ?_
      exact x_ireturn dJ1_indexOfChar_4cfef_24 rfl rfl (by
rw [if_pos (by first | exact h19 | exact Classical.byContradiction h19)] at hq; exact hq)
theorem c_J1_indexOf {v : Nat} {c : Int32} (hN : bs.length < 2 ^ 31) (hb : ∀ j, j < bs.length → 0 ≤ bs.getD j 0 ∧ bs.getD j 0 ≤ 127) (ht : OldT G .byte v bs.length (fun j => .int (bs.getD j 0))) (hq : Q (some (.int (sxF bs c bs.length 0))) M) : CT G (d + 1) (0, 0) MJ1_indexOf_4cfef [.ref v, .int c, .int 0, .int (nI bs.length)] M Q := by
  refine CT.of rfl (Nat.le_of_ble_eq_true rfl) ?_
  have e0 : (if (0 : Int32) < 0 then (0 : Int32) else 0) = 0 := by decide
  have e1 : (if Int32.ofNat bs.length < nI bs.length then Int32.ofNat bs.length else nI bs.length) = nI bs.length := by split <;> rfl
  refine x_iload_n dJ1_indexOf_4cfef_0 rfl rfl ?_
  refine x_cS1 dJ1_indexOf_4cfef_1 ls_J1_88 rfl  (c_J1_canEncode ?_)
  refine x_if_ne_b (tgt := 9) dJ1_indexOf_4cfef_4 (by decide) (fun h4 => ?_) (fun h4 => ?_)
  · refine x_iload_n dJ1_indexOf_4cfef_9 rfl rfl ?_
    refine x_iconst (v := 0) dJ1_indexOf_4cfef_10 (by decide) ?_
    refine x_cS2 dJ1_indexOf_4cfef_11 ls_J1_92 rfl  (c_J9_max_7cf53 ?_)
    rw [e0]
    refine x_istore_n dJ1_indexOf_4cfef_14 rfl (by decide) ?_
    refine x_iload_n dJ1_indexOf_4cfef_15 rfl rfl ?_
    refine x_aload_n dJ1_indexOf_4cfef_16 rfl rfl ?_
    refine x_olen dJ1_indexOf_4cfef_17 ht rfl ?_
    refine x_cS2 dJ1_indexOf_4cfef_18 ls_J1_38 rfl  (c_J9_min_7cf53 ?_)
    first | rw [e1] | skip
    refine x_istore_n dJ1_indexOf_4cfef_21 rfl (by decide) ?_
    refine x_iload_n dJ1_indexOf_4cfef_22 rfl rfl ?_
    refine x_iload_n dJ1_indexOf_4cfef_23 rfl rfl ?_
    refine x_icmp_lt (tgt := 29) dJ1_indexOf_4cfef_24 (by decide) (fun h24 => ?_) (fun h24 => ?_)
    · refine x_aload_n dJ1_indexOf_4cfef_29 rfl rfl ?_
      refine x_iload_n dJ1_indexOf_4cfef_30 rfl rfl ?_
      refine x_iload_n dJ1_indexOf_4cfef_31 rfl rfl ?_
      refine x_iload_n dJ1_indexOf_4cfef_32 rfl rfl ?_
      refine x_cS4 dJ1_indexOf_4cfef_33 ls_J1_95 rfl  (c_J1_indexOfChar hN ht ?_)
      exact x_ireturn dJ1_indexOf_4cfef_36 rfl rfl (by
have y : sxF bs c bs.length 0 = sxF bs c.toInt8.toInt32 bs.length 0 := by
  refine sxF_c _ _ (fun j hj => ?_)
  rw [Nat.zero_add]
  exact (byte_sign (hb j hj).1 (hb j hj).2 h4.1 h4.2).symm
rw [y] at hq; exact hq)
    · refine x_iconst (v := -1) dJ1_indexOf_4cfef_27 (by decide) ?_
      exact x_ireturn dJ1_indexOf_4cfef_28 rfl rfl (by
have y : bs.length = 0 := by
  rcases Nat.eq_zero_or_pos bs.length with y | y
  · exact y
  · exact absurd (nI_lt y hN) h24
have y2 : sxF bs c bs.length 0 = -1 := by rw [y]; rfl
rw [y2] at hq; exact hq)
  · refine x_iconst (v := -1) dJ1_indexOf_4cfef_7 (by decide) ?_
    exact x_ireturn dJ1_indexOf_4cfef_8 rfl rfl (by
rw [sxF_none] at hq
· exact hq
· intro j hj z
  rw [Nat.zero_add] at z
  have := hb j hj
  rw [z] at this
  exact h4 ⟨this.1, Int32.le_trans this.2 (by decide)⟩)
theorem c_J0_indexOf2 {c : Int32} (hz : ZCom G) (hN : bs.length < 2 ^ 31) (hb : ∀ j, j < bs.length → 0 ≤ bs.getD j 0 ∧ bs.getD j 0 ≤ 127) (hs : StrA G a bs) (hq : Q (some (.int (sxF bs c bs.length 0))) M) : CT G (d + 2) (0, 0) MJ0_indexOf_7cf53 [.ref a, .int c, .int 0] M Q := by
  have hs' := hs
  obtain ⟨v, ho, hc, hv, ht⟩ := hs
  refine CT.of rfl (Nat.le_of_ble_eq_true rfl) ?_
  refine x_aload_n dJ0_indexOf_7cf53_0 rfl rfl ?_
  refine x_oV0 dJ0_indexOf_7cf53_1 lv_J0_492 ho rfl rfl  (c_J0_isLatin1 hz hs' ?_)
  refine x_if_eq (tgt := 23) dJ0_indexOf_7cf53_4 (by decide) (fun z => absurd z (by decide)) (fun _ => ?_)
  refine x_aload_n dJ0_indexOf_7cf53_7 rfl rfl ?_
  refine x_ogetf dJ0_indexOf_7cf53_8 hv tb1779 rfl ?_
  refine x_iload_n dJ0_indexOf_7cf53_11 rfl rfl ?_
  refine x_iload_n dJ0_indexOf_7cf53_12 rfl rfl ?_
  refine x_aload_n dJ0_indexOf_7cf53_13 rfl rfl ?_
  refine x_oV0 dJ0_indexOf_7cf53_14 lv_J0_505 ho rfl rfl  (c_J0_length hz hs' ?_)
  refine x_cS4 dJ0_indexOf_7cf53_17 ls_J0_637 rfl  (c_J1_indexOf hN hb ht ?_)
  refine x_goto (tgt := 36) dJ0_indexOf_7cf53_20 (by decide) ?_
  exact x_ireturn dJ0_indexOf_7cf53_36 rfl rfl (hq)
theorem c_J0_indexOf {c : Int32} (hz : ZCom G) (hN : bs.length < 2 ^ 31) (hb : ∀ j, j < bs.length → 0 ≤ bs.getD j 0 ∧ bs.getD j 0 ≤ 127) (hs : StrA G a bs) (hq : Q (some (.int (sxF bs c bs.length 0))) M) : CT G (d + 3) (0, 0) MJ0_indexOf_0f7a4 [.ref a, .int c] M Q := by
  have hs' := hs
  obtain ⟨v, ho, hc, hv, ht⟩ := hs
  refine CT.of rfl (Nat.le_of_ble_eq_true rfl) ?_
  refine x_aload_n dJ0_indexOf_0f7a4_0 rfl rfl ?_
  refine x_iload_n dJ0_indexOf_0f7a4_1 rfl rfl ?_
  refine x_iconst (v := 0) dJ0_indexOf_0f7a4_2 (by decide) ?_
  refine x_oV2 dJ0_indexOf_0f7a4_3 lv_J0_633 ho rfl rfl  (c_J0_indexOf2 hz hN hb hs' ?_)
  exact x_ireturn dJ0_indexOf_0f7a4_6 rfl rfl (hq)
end STRX
