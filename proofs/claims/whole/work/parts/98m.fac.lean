/-! the start, 2: statics and literals -/
def nL : List Cond := flatC (Cond.and given_1 narrow_1)
theorem sw_53 : (Cond.laysStatic "java/util/ArrayList" "DEFAULTCAPACITY_EMPTY_ELEMENTDATA" "[Ljava/lang/Object;") ∈ lw_tbl := tb_r (List.mem_of_getElem? (i := 53) (by decide +kernel))
theorem sw_152 : (Cond.laysStatic "java/lang/String" "COMPACT_STRINGS" "Z") ∈ lw_tbl := tb_r (List.mem_of_getElem? (i := 152) (by decide +kernel))
theorem sw_1014 : (Cond.laysStatic "DiaryHouse" "HIDING_ORDER" "[I") ∈ lw_tbl := tb_r (List.mem_of_getElem? (i := 1014) (by decide +kernel))
theorem sw_1135 : (Cond.laysStatic "java/lang/Throwable" "UNASSIGNED_STACK" "[Ljava/lang/StackTraceElement;") ∈ lw_tbl := tb_r (List.mem_of_getElem? (i := 1135) (by decide +kernel))
theorem sw_1137 : (Cond.laysStatic "java/lang/Throwable" "SUPPRESSED_SENTINEL" "Ljava/util/List;") ∈ lw_tbl := tb_r (List.mem_of_getElem? (i := 1137) (by decide +kernel))
theorem sw_4 : (Cond.initialized "java/util/ArrayList") ∈ lw_tbl := tb_r (List.mem_of_getElem? (i := 4) (by decide +kernel))
theorem sw_8 : (Cond.initialized "java/lang/String") ∈ lw_tbl := tb_r (List.mem_of_getElem? (i := 8) (by decide +kernel))
theorem sw_19 : (Cond.initialized "java/lang/Throwable") ∈ lw_tbl := tb_r (List.mem_of_getElem? (i := 19) (by decide +kernel))
theorem sw_1 : (Cond.initialized "DiaryHouse") ∈ lw_tbl := tb_r (List.mem_of_getElem? (i := 1) (by decide +kernel))
theorem sw_142 : (Cond.stringRef "DiaryHouse" (63 : Nat) "apwtkmer") ∈ lw_tbl := tb_r (List.mem_of_getElem? (i := 142) (by decide +kernel))
theorem sw_465 : (Cond.stringRef "DiaryHouse$Tape" (47 : Nat) "qsd") ∈ lw_tbl := tb_r (List.mem_of_getElem? (i := 465) (by decide +kernel))
theorem sw_551 : (Cond.stringRef "DiaryHouse$Tape" (60 : Nat) ":") ∈ lw_tbl := tb_r (List.mem_of_getElem? (i := 551) (by decide +kernel))
theorem sw_556 : (Cond.stringRef "DiaryHouse$Tape" (62 : Nat) "!(") ∈ lw_tbl := tb_r (List.mem_of_getElem? (i := 556) (by decide +kernel))
theorem sw_569 : (Cond.stringRef "DiaryHouse$Tape" (94 : Nat) "!") ∈ lw_tbl := tb_r (List.mem_of_getElem? (i := 569) (by decide +kernel))
theorem sw_570 : (Cond.stringRef "DiaryHouse$Tape" (96 : Nat) "(") ∈ lw_tbl := tb_r (List.mem_of_getElem? (i := 570) (by decide +kernel))
theorem sw_571 : (Cond.stringRef "DiaryHouse$Tape" (98 : Nat) ")") ∈ lw_tbl := tb_r (List.mem_of_getElem? (i := 571) (by decide +kernel))
theorem sw_584 : (Cond.stringRef "DiaryHouse$Tape" (110 : Nat) "[") ∈ lw_tbl := tb_r (List.mem_of_getElem? (i := 584) (by decide +kernel))
theorem sw_585 : (Cond.stringRef "DiaryHouse$Tape" (112 : Nat) "]") ∈ lw_tbl := tb_r (List.mem_of_getElem? (i := 585) (by decide +kernel))
theorem sw_586 : (Cond.stringRef "DiaryHouse$Tape" (114 : Nat) "apwtkmer") ∈ lw_tbl := tb_r (List.mem_of_getElem? (i := 586) (by decide +kernel))
theorem sw_592 : (Cond.stringRef "DiaryHouse$Tape" (108 : Nat) "*/") ∈ lw_tbl := tb_r (List.mem_of_getElem? (i := 592) (by decide +kernel))
theorem sw_593 : (Cond.stringRef "DiaryHouse$Tape" (103 : Nat) "+-") ∈ lw_tbl := tb_r (List.mem_of_getElem? (i := 593) (by decide +kernel))
theorem sw_598 : (Cond.stringRef "DiaryHouse$Tape" (71 : Nat) "=<>") ∈ lw_tbl := tb_r (List.mem_of_getElem? (i := 598) (by decide +kernel))
theorem sw_603 : (Cond.stringRef "DiaryHouse$Tape" (92 : Nat) "&") ∈ lw_tbl := tb_r (List.mem_of_getElem? (i := 603) (by decide +kernel))
theorem sw_608 : (Cond.stringRef "DiaryHouse$Tape" (87 : Nat) "|") ∈ lw_tbl := tb_r (List.mem_of_getElem? (i := 608) (by decide +kernel))
theorem sw_609 : (Cond.stringRef "DiaryHouse$Tape" (82 : Nat) "?") ∈ lw_tbl := tb_r (List.mem_of_getElem? (i := 609) (by decide +kernel))
theorem sw_610 : (Cond.stringRef "DiaryHouse$Tape" (39 : Nat) ";") ∈ lw_tbl := tb_r (List.mem_of_getElem? (i := 610) (by decide +kernel))
theorem sw_678 : (Cond.stringRef "DiaryHouse$Rule" (27 : Nat) "qsd") ∈ lw_tbl := tb_r (List.mem_of_getElem? (i := 678) (by decide +kernel))
theorem sw_691 : (Cond.stringRef "DiaryHouse$Rule" (47 : Nat) "apwtkmer") ∈ lw_tbl := tb_r (List.mem_of_getElem? (i := 691) (by decide +kernel))
theorem sw_1147 : (Cond.stringRef "DiaryHouse" (137 : Nat) "no such LINE, or nothing of it by that number") ∈ lw_tbl := tb_r (List.mem_of_getElem? (i := 1147) (by decide +kernel))
theorem sw_1467 : (Cond.stringRef "DiaryHouseModel" (270 : Nat) "qsd") ∈ lw_tbl := tb_r (List.mem_of_getElem? (i := 1467) (by decide +kernel))
theorem sw_1501 : (Cond.stringRef "DiaryHouseModel" (225 : Nat) "apwtkmer") ∈ lw_tbl := tb_r (List.mem_of_getElem? (i := 1501) (by decide +kernel))
section FAC
variable {l : Launch} {s : State} {D : va_G} {tA : Nat → ClassId} {b : Nat}
theorem old_lt : ∀ a : Nat, a < s.heap.size → ¬ oldA (l, s, D, tA) a := fun a h z => absurd h (Nat.not_lt.mpr z)
theorem lit_of (hT : ∀ w ∈ lw_tbl, w.before #[Value.ref b] s = true) (hN : ∀ c ∈ nL, c.before #[Value.ref b] s = true) {own tx : String} {idx : Nat} (bs : List Int32) (hb : bs.length < 2 ^ 31) (hr : (Cond.stringRef own idx tx) ∈ lw_tbl) (m1 : Cond.exactly (.string own idx) "java/lang/String" ∈ nL) (m2 : Cond.eq (.field (.string own idx) "java/lang/String" "coder" "B") (.int 0) ∈ nL) (m3 : Cond.arrayOf (.field (.string own idx) "java/lang/String" "value" "[B") .byte ∈ nL) (m4 : Cond.eq (.length (.field (.string own idx) "java/lang/String" "value" "[B")) (.int (Int32.ofNat bs.length)) ∈ nL)
    (m5 : ∀ j, j < bs.length → Cond.eq (.elem (.field (.string own idx) "java/lang/String" "value" "[B") (.int (Int32.ofNat j))) (.int (bs.getD j 0)) ∈ nL) : Lit (l, s, D, tA) own idx bs := by
  have z : ∀ i : Nat, i < 1 → i = 0 := fun i hi => by omega
  obtain ⟨adK, adV, hS, hev⟩ := vk_Sof (args := #[Value.ref b]) (s := s) (N := 1) (tm := fun _ => .string own idx) (len := [bs.length]) (byt := [bs]) (A := oldA (l, s, D, tA)) (fun i hi => by rw [z i hi]; exact hb) (fun i _ => hN _ m1) (fun i _ => hN _ m2) (fun i _ => hN _ m3) (fun i hi => by rw [z i hi]; exact hN _ m4) (fun i hi j hj => by rw [z i hi] at hj ⊢; exact hN _ (m5 j hj)) (fun i j hi hj hij => absurd ((z i hi).trans (z j hj).symm) hij) old_lt
  obtain ⟨h1, h2, h3, h4⟩ := hS.1 0 (by decide)
  exact ⟨tx, adK 0, vk_R.of (hT _ hr) (hev 0 (by decide)), adV 0, h1, h2, h3, h4⟩
theorem f_ZCom (hT : ∀ w ∈ lw_tbl, w.before #[Value.ref b] s = true) (hN : ∀ c ∈ nL, c.before #[Value.ref b] s = true) : ZCom (l, s, D, tA) := va_Zof (hT _ sw_152) (hT _ sw_8) (va_eqt (hN _ (show Cond.eq (.static "java/lang/String" "COMPACT_STRINGS" "Z") (.int 1) ∈ nL by decide +kernel))) old_lt
theorem f_OldE (hT : ∀ w ∈ lw_tbl, w.before #[Value.ref b] s = true) (hN : ∀ c ∈ nL, c.before #[Value.ref b] s = true) : ∃ e, OldE (l, s, D, tA) e := by
  obtain ⟨t, h1, h2⟩ := va_Tof (args := #[Value.ref b]) (s := s) (tm := .static "java/util/ArrayList" "DEFAULTCAPACITY_EMPTY_ELEMENTDATA" "[Ljava/lang/Object;") (ty := .object "java/lang/Object") (N := 0) (f := fun _ => .null) (A := oldA (l, s, D, tA)) (by decide) (hN _ (by decide +kernel)) (va_eqt (hN _ (show Cond.eq (.length (.static "java/util/ArrayList" "DEFAULTCAPACITY_EMPTY_ELEMENTDATA" "[Ljava/lang/Object;")) (.int (Int32.ofNat 0)) ∈ nL by decide +kernel))) (fun j hj => absurd hj (Nat.not_lt_zero j)) old_lt
  exact ⟨t, h2, va_Zref (hT _ sw_53) (hT _ sw_4) h1 old_lt⟩
theorem f_ZHid (hT : ∀ w ∈ lw_tbl, w.before #[Value.ref b] s = true) (hN : ∀ c ∈ nL, c.before #[Value.ref b] s = true) : ZHid (l, s, D, tA) := by
  have hm : ∀ j, j < 8 → Cond.eq (.elem (.static "DiaryHouse" "HIDING_ORDER" "[I") (.int (Int32.ofNat j))) (.int (hidO.getD j 0)) ∈ nL := by decide +kernel
  obtain ⟨t, h1, h2⟩ := va_Tof (args := #[Value.ref b]) (s := s) (tm := .static "DiaryHouse" "HIDING_ORDER" "[I") (ty := .int) (N := 8) (f := fun j => .int (hidO.getD j 0)) (A := oldA (l, s, D, tA)) (by decide) (hN _ (by decide +kernel)) (va_eqt (hN _ (show Cond.eq (.length (.static "DiaryHouse" "HIDING_ORDER" "[I")) (.int (Int32.ofNat 8)) ∈ nL by decide +kernel))) (fun j hj => va_eqt (hN _ (hm j hj))) old_lt
  exact ⟨t, va_Zref (hT _ sw_1014) (hT _ sw_1) h1 old_lt, h2⟩
theorem f_ZMir (hN : ∀ c ∈ nL, c.before #[Value.ref b] s = true) : ∃ mi, ZMir (l, s, D, tA) mi := va_Mi.of (hN _ (show Cond.isRef (.mirror "[Ljava/lang/Object;") ∈ nL by decide +kernel))
theorem lit_142 (hT : ∀ w ∈ lw_tbl, w.before #[Value.ref b] s = true) (hN : ∀ c ∈ nL, c.before #[Value.ref b] s = true) : Lit (l, s, D, tA) "DiaryHouse" 63 pLetters := lit_of hT hN pLetters (by decide) sw_142 (by decide +kernel) (by decide +kernel) (by decide +kernel) (by decide +kernel) (by decide +kernel)
theorem lit_465 (hT : ∀ w ∈ lw_tbl, w.before #[Value.ref b] s = true) (hN : ∀ c ∈ nL, c.before #[Value.ref b] s = true) : Lit (l, s, D, tA) "DiaryHouse$Tape" 47 pLabels := lit_of hT hN pLabels (by decide) sw_465 (by decide +kernel) (by decide +kernel) (by decide +kernel) (by decide +kernel) (by decide +kernel)
theorem lit_551 (hT : ∀ w ∈ lw_tbl, w.before #[Value.ref b] s = true) (hN : ∀ c ∈ nL, c.before #[Value.ref b] s = true) : Lit (l, s, D, tA) "DiaryHouse$Tape" 60 [58] := lit_of hT hN [58] (by decide) sw_551 (by decide +kernel) (by decide +kernel) (by decide +kernel) (by decide +kernel) (by decide +kernel)
theorem lit_556 (hT : ∀ w ∈ lw_tbl, w.before #[Value.ref b] s = true) (hN : ∀ c ∈ nL, c.before #[Value.ref b] s = true) : Lit (l, s, D, tA) "DiaryHouse$Tape" 62 [33, 40] := lit_of hT hN [33, 40] (by decide) sw_556 (by decide +kernel) (by decide +kernel) (by decide +kernel) (by decide +kernel) (by decide +kernel)
theorem lit_569 (hT : ∀ w ∈ lw_tbl, w.before #[Value.ref b] s = true) (hN : ∀ c ∈ nL, c.before #[Value.ref b] s = true) : Lit (l, s, D, tA) "DiaryHouse$Tape" 94 [33] := lit_of hT hN [33] (by decide) sw_569 (by decide +kernel) (by decide +kernel) (by decide +kernel) (by decide +kernel) (by decide +kernel)
theorem lit_570 (hT : ∀ w ∈ lw_tbl, w.before #[Value.ref b] s = true) (hN : ∀ c ∈ nL, c.before #[Value.ref b] s = true) : Lit (l, s, D, tA) "DiaryHouse$Tape" 96 [40] := lit_of hT hN [40] (by decide) sw_570 (by decide +kernel) (by decide +kernel) (by decide +kernel) (by decide +kernel) (by decide +kernel)
theorem lit_571 (hT : ∀ w ∈ lw_tbl, w.before #[Value.ref b] s = true) (hN : ∀ c ∈ nL, c.before #[Value.ref b] s = true) : Lit (l, s, D, tA) "DiaryHouse$Tape" 98 [41] := lit_of hT hN [41] (by decide) sw_571 (by decide +kernel) (by decide +kernel) (by decide +kernel) (by decide +kernel) (by decide +kernel)
theorem lit_584 (hT : ∀ w ∈ lw_tbl, w.before #[Value.ref b] s = true) (hN : ∀ c ∈ nL, c.before #[Value.ref b] s = true) : Lit (l, s, D, tA) "DiaryHouse$Tape" 110 [91] := lit_of hT hN [91] (by decide) sw_584 (by decide +kernel) (by decide +kernel) (by decide +kernel) (by decide +kernel) (by decide +kernel)
theorem lit_585 (hT : ∀ w ∈ lw_tbl, w.before #[Value.ref b] s = true) (hN : ∀ c ∈ nL, c.before #[Value.ref b] s = true) : Lit (l, s, D, tA) "DiaryHouse$Tape" 112 [93] := lit_of hT hN [93] (by decide) sw_585 (by decide +kernel) (by decide +kernel) (by decide +kernel) (by decide +kernel) (by decide +kernel)
theorem lit_586 (hT : ∀ w ∈ lw_tbl, w.before #[Value.ref b] s = true) (hN : ∀ c ∈ nL, c.before #[Value.ref b] s = true) : Lit (l, s, D, tA) "DiaryHouse$Tape" 114 pLetters := lit_of hT hN pLetters (by decide) sw_586 (by decide +kernel) (by decide +kernel) (by decide +kernel) (by decide +kernel) (by decide +kernel)
theorem lit_592 (hT : ∀ w ∈ lw_tbl, w.before #[Value.ref b] s = true) (hN : ∀ c ∈ nL, c.before #[Value.ref b] s = true) : Lit (l, s, D, tA) "DiaryHouse$Tape" 108 [42, 47] := lit_of hT hN [42, 47] (by decide) sw_592 (by decide +kernel) (by decide +kernel) (by decide +kernel) (by decide +kernel) (by decide +kernel)
theorem lit_593 (hT : ∀ w ∈ lw_tbl, w.before #[Value.ref b] s = true) (hN : ∀ c ∈ nL, c.before #[Value.ref b] s = true) : Lit (l, s, D, tA) "DiaryHouse$Tape" 103 [43, 45] := lit_of hT hN [43, 45] (by decide) sw_593 (by decide +kernel) (by decide +kernel) (by decide +kernel) (by decide +kernel) (by decide +kernel)
theorem lit_598 (hT : ∀ w ∈ lw_tbl, w.before #[Value.ref b] s = true) (hN : ∀ c ∈ nL, c.before #[Value.ref b] s = true) : Lit (l, s, D, tA) "DiaryHouse$Tape" 71 [61, 60, 62] := lit_of hT hN [61, 60, 62] (by decide) sw_598 (by decide +kernel) (by decide +kernel) (by decide +kernel) (by decide +kernel) (by decide +kernel)
theorem lit_603 (hT : ∀ w ∈ lw_tbl, w.before #[Value.ref b] s = true) (hN : ∀ c ∈ nL, c.before #[Value.ref b] s = true) : Lit (l, s, D, tA) "DiaryHouse$Tape" 92 [38] := lit_of hT hN [38] (by decide) sw_603 (by decide +kernel) (by decide +kernel) (by decide +kernel) (by decide +kernel) (by decide +kernel)
theorem lit_608 (hT : ∀ w ∈ lw_tbl, w.before #[Value.ref b] s = true) (hN : ∀ c ∈ nL, c.before #[Value.ref b] s = true) : Lit (l, s, D, tA) "DiaryHouse$Tape" 87 [124] := lit_of hT hN [124] (by decide) sw_608 (by decide +kernel) (by decide +kernel) (by decide +kernel) (by decide +kernel) (by decide +kernel)
theorem lit_609 (hT : ∀ w ∈ lw_tbl, w.before #[Value.ref b] s = true) (hN : ∀ c ∈ nL, c.before #[Value.ref b] s = true) : Lit (l, s, D, tA) "DiaryHouse$Tape" 82 [63] := lit_of hT hN [63] (by decide) sw_609 (by decide +kernel) (by decide +kernel) (by decide +kernel) (by decide +kernel) (by decide +kernel)
theorem lit_610 (hT : ∀ w ∈ lw_tbl, w.before #[Value.ref b] s = true) (hN : ∀ c ∈ nL, c.before #[Value.ref b] s = true) : Lit (l, s, D, tA) "DiaryHouse$Tape" 39 [59] := lit_of hT hN [59] (by decide) sw_610 (by decide +kernel) (by decide +kernel) (by decide +kernel) (by decide +kernel) (by decide +kernel)
theorem lit_678 (hT : ∀ w ∈ lw_tbl, w.before #[Value.ref b] s = true) (hN : ∀ c ∈ nL, c.before #[Value.ref b] s = true) : Lit (l, s, D, tA) "DiaryHouse$Rule" 27 pLabels := lit_of hT hN pLabels (by decide) sw_678 (by decide +kernel) (by decide +kernel) (by decide +kernel) (by decide +kernel) (by decide +kernel)
theorem lit_691 (hT : ∀ w ∈ lw_tbl, w.before #[Value.ref b] s = true) (hN : ∀ c ∈ nL, c.before #[Value.ref b] s = true) : Lit (l, s, D, tA) "DiaryHouse$Rule" 47 pLetters := lit_of hT hN pLetters (by decide) sw_691 (by decide +kernel) (by decide +kernel) (by decide +kernel) (by decide +kernel) (by decide +kernel)
theorem lit_1147 (hT : ∀ w ∈ lw_tbl, w.before #[Value.ref b] s = true) (hN : ∀ c ∈ nL, c.before #[Value.ref b] s = true) : Lit (l, s, D, tA) "DiaryHouse" 137 [110, 111, 32, 115, 117, 99, 104, 32, 76, 73, 78, 69, 44, 32, 111, 114, 32, 110, 111, 116, 104, 105, 110, 103, 32, 111, 102, 32, 105, 116, 32, 98, 121, 32, 116, 104, 97, 116, 32, 110, 117, 109, 98, 101, 114] := lit_of hT hN [110, 111, 32, 115, 117, 99, 104, 32, 76, 73, 78, 69, 44, 32, 111, 114, 32, 110, 111, 116, 104, 105, 110, 103, 32, 111, 102, 32, 105, 116, 32, 98, 121, 32, 116, 104, 97, 116, 32, 110, 117, 109, 98, 101, 114] (by decide) sw_1147 (by decide +kernel) (by decide +kernel) (by decide +kernel) (by decide +kernel) (by decide +kernel)
theorem lit_1467 (hT : ∀ w ∈ lw_tbl, w.before #[Value.ref b] s = true) (hN : ∀ c ∈ nL, c.before #[Value.ref b] s = true) : Lit (l, s, D, tA) "DiaryHouseModel" 270 pLabels := lit_of hT hN pLabels (by decide) sw_1467 (by decide +kernel) (by decide +kernel) (by decide +kernel) (by decide +kernel) (by decide +kernel)
theorem lit_1501 (hT : ∀ w ∈ lw_tbl, w.before #[Value.ref b] s = true) (hN : ∀ c ∈ nL, c.before #[Value.ref b] s = true) : Lit (l, s, D, tA) "DiaryHouseModel" 225 pLetters := lit_of hT hN pLetters (by decide) sw_1501 (by decide +kernel) (by decide +kernel) (by decide +kernel) (by decide +kernel) (by decide +kernel)
theorem f_Th (hf : l.flags = flags0) (hT : ∀ w ∈ lw_tbl, w.before #[Value.ref b] s = true) (hN : ∀ c ∈ nL, c.before #[Value.ref b] s = true) : ThOK (l, s, D, tA) := by
  obtain ⟨tx, a, h1, -⟩ := lit_1147 (l := l) (D := D) (tA := tA) hT hN
  refine ⟨?_, vx_Zqof (hT _ sw_1135) (hT _ sw_19) (hN _ (by decide +kernel)) old_lt, vx_Zqof (hT _ sw_1137) (hT _ sw_19) (hN _ (by decide +kernel)) old_lt, tx, a, h1⟩
  show l.stackTraces = false
  unfold Launch.stackTraces
  rw [hf]
  decide
theorem f_G (hf : l.flags = flags0) (hT : ∀ w ∈ lw_tbl, w.before #[Value.ref b] s = true) (hN : ∀ c ∈ nL, c.before #[Value.ref b] s = true) : GOK (l, s, D, tA) :=
  ⟨⟨f_ZCom hT hN, lit_1501 hT hN, lit_1467 hT hN⟩, ⟨f_ZCom hT hN, lit_691 hT hN, lit_678 hT hN⟩,
   ⟨f_ZCom hT hN, (lit_584 hT hN), (lit_585 hT hN), (lit_586 hT hN), (lit_592 hT hN), (lit_593 hT hN), (lit_598 hT hN), (lit_569 hT hN), (lit_570 hT hN), (lit_571 hT hN), (lit_603 hT hN), (lit_608 hT hN), (lit_465 hT hN), (lit_551 hT hN), (lit_556 hT hN), (lit_609 hT hN), (lit_610 hT hN)⟩, f_Th hf hT hN, f_ZHid hT hN, f_ZMir hN⟩
end FAC
