/-! the start, 2: statics and literals -/
def nL : List Cond := flatC (Cond.and given_1 narrow_1)
theorem sw_53 : (Cond.laysStatic "java/util/ArrayList" "DEFAULTCAPACITY_EMPTY_ELEMENTDATA" "[Ljava/lang/Object;") ∈ lw_tbl := tb_r (List.mem_of_getElem? (i := 53) (by decide +kernel))
theorem sw_152 : (Cond.laysStatic "java/lang/String" "COMPACT_STRINGS" "Z") ∈ lw_tbl := tb_r (List.mem_of_getElem? (i := 152) (by decide +kernel))
theorem sw_1019 : (Cond.laysStatic "DiaryHouse" "HIDING_ORDER" "[I") ∈ lw_tbl := tb_r (List.mem_of_getElem? (i := 1019) (by decide +kernel))
theorem sw_1140 : (Cond.laysStatic "java/lang/Throwable" "UNASSIGNED_STACK" "[Ljava/lang/StackTraceElement;") ∈ lw_tbl := tb_r (List.mem_of_getElem? (i := 1140) (by decide +kernel))
theorem sw_1142 : (Cond.laysStatic "java/lang/Throwable" "SUPPRESSED_SENTINEL" "Ljava/util/List;") ∈ lw_tbl := tb_r (List.mem_of_getElem? (i := 1142) (by decide +kernel))
theorem sw_4 : (Cond.initialized "java/util/ArrayList") ∈ lw_tbl := tb_r (List.mem_of_getElem? (i := 4) (by decide +kernel))
theorem sw_8 : (Cond.initialized "java/lang/String") ∈ lw_tbl := tb_r (List.mem_of_getElem? (i := 8) (by decide +kernel))
theorem sw_19 : (Cond.initialized "java/lang/Throwable") ∈ lw_tbl := tb_r (List.mem_of_getElem? (i := 19) (by decide +kernel))
theorem sw_1 : (Cond.initialized "DiaryHouse") ∈ lw_tbl := tb_r (List.mem_of_getElem? (i := 1) (by decide +kernel))
theorem sw_142 : (Cond.stringRef "DiaryHouse" (63 : Nat) "apwtkmer") ∈ lw_tbl := tb_r (List.mem_of_getElem? (i := 142) (by decide +kernel))
theorem sw_470 : (Cond.stringRef "DiaryHouse$Tape" (47 : Nat) "qsd") ∈ lw_tbl := tb_r (List.mem_of_getElem? (i := 470) (by decide +kernel))
theorem sw_556 : (Cond.stringRef "DiaryHouse$Tape" (60 : Nat) ":") ∈ lw_tbl := tb_r (List.mem_of_getElem? (i := 556) (by decide +kernel))
theorem sw_561 : (Cond.stringRef "DiaryHouse$Tape" (62 : Nat) "!(") ∈ lw_tbl := tb_r (List.mem_of_getElem? (i := 561) (by decide +kernel))
theorem sw_574 : (Cond.stringRef "DiaryHouse$Tape" (94 : Nat) "!") ∈ lw_tbl := tb_r (List.mem_of_getElem? (i := 574) (by decide +kernel))
theorem sw_575 : (Cond.stringRef "DiaryHouse$Tape" (96 : Nat) "(") ∈ lw_tbl := tb_r (List.mem_of_getElem? (i := 575) (by decide +kernel))
theorem sw_576 : (Cond.stringRef "DiaryHouse$Tape" (98 : Nat) ")") ∈ lw_tbl := tb_r (List.mem_of_getElem? (i := 576) (by decide +kernel))
theorem sw_589 : (Cond.stringRef "DiaryHouse$Tape" (110 : Nat) "[") ∈ lw_tbl := tb_r (List.mem_of_getElem? (i := 589) (by decide +kernel))
theorem sw_590 : (Cond.stringRef "DiaryHouse$Tape" (112 : Nat) "]") ∈ lw_tbl := tb_r (List.mem_of_getElem? (i := 590) (by decide +kernel))
theorem sw_591 : (Cond.stringRef "DiaryHouse$Tape" (114 : Nat) "apwtkmer") ∈ lw_tbl := tb_r (List.mem_of_getElem? (i := 591) (by decide +kernel))
theorem sw_597 : (Cond.stringRef "DiaryHouse$Tape" (108 : Nat) "*/") ∈ lw_tbl := tb_r (List.mem_of_getElem? (i := 597) (by decide +kernel))
theorem sw_598 : (Cond.stringRef "DiaryHouse$Tape" (103 : Nat) "+-") ∈ lw_tbl := tb_r (List.mem_of_getElem? (i := 598) (by decide +kernel))
theorem sw_603 : (Cond.stringRef "DiaryHouse$Tape" (71 : Nat) "=<>") ∈ lw_tbl := tb_r (List.mem_of_getElem? (i := 603) (by decide +kernel))
theorem sw_608 : (Cond.stringRef "DiaryHouse$Tape" (92 : Nat) "&") ∈ lw_tbl := tb_r (List.mem_of_getElem? (i := 608) (by decide +kernel))
theorem sw_613 : (Cond.stringRef "DiaryHouse$Tape" (87 : Nat) "|") ∈ lw_tbl := tb_r (List.mem_of_getElem? (i := 613) (by decide +kernel))
theorem sw_614 : (Cond.stringRef "DiaryHouse$Tape" (82 : Nat) "?") ∈ lw_tbl := tb_r (List.mem_of_getElem? (i := 614) (by decide +kernel))
theorem sw_615 : (Cond.stringRef "DiaryHouse$Tape" (39 : Nat) ";") ∈ lw_tbl := tb_r (List.mem_of_getElem? (i := 615) (by decide +kernel))
theorem sw_683 : (Cond.stringRef "DiaryHouse$Rule" (27 : Nat) "qsd") ∈ lw_tbl := tb_r (List.mem_of_getElem? (i := 683) (by decide +kernel))
theorem sw_696 : (Cond.stringRef "DiaryHouse$Rule" (47 : Nat) "apwtkmer") ∈ lw_tbl := tb_r (List.mem_of_getElem? (i := 696) (by decide +kernel))
theorem sw_1152 : (Cond.stringRef "DiaryHouse" (141 : Nat) "no such LINE, or nothing of it by that number") ∈ lw_tbl := tb_r (List.mem_of_getElem? (i := 1152) (by decide +kernel))
theorem sw_1472 : (Cond.stringRef "DiaryHouseModel" (270 : Nat) "qsd") ∈ lw_tbl := tb_r (List.mem_of_getElem? (i := 1472) (by decide +kernel))
theorem sw_1506 : (Cond.stringRef "DiaryHouseModel" (225 : Nat) "apwtkmer") ∈ lw_tbl := tb_r (List.mem_of_getElem? (i := 1506) (by decide +kernel))
section FAC
variable {l : Launch} {s : State} {D : va_G} {tA : Nat → ClassId} {b : Nat}
theorem old_lt : ∀ a : Nat, a < s.heap.size → ¬ oldA (l, s, D, tA) a := fun a h z => absurd h (Nat.not_lt.mpr z)
theorem lit_of (hT : ∀ w ∈ lw_tbl, w.before #[Value.ref b] s = true) (hN : ∀ c ∈ nL, c.before #[Value.ref b] s = true) {own tx : String} {idx : Nat} (bs : List Int32) (hb : bs.length < 2 ^ 31) (hr : (Cond.stringRef own idx tx) ∈ lw_tbl) (m1 : Cond.exactly (.string own idx) "java/lang/String" ∈ nL) (m2 : Cond.eq (.field (.string own idx) "java/lang/String" "coder" "B") (.int 0) ∈ nL) (m3 : Cond.arrayOf (.field (.string own idx) "java/lang/String" "value" "[B") .byte ∈ nL) (m4 : Cond.eq (.length (.field (.string own idx) "java/lang/String" "value" "[B")) (.int (Int32.ofNat bs.length)) ∈ nL)
    (m5 : ∀ j, j < bs.length → Cond.eq (.elem (.field (.string own idx) "java/lang/String" "value" "[B") (.int (Int32.ofNat j))) (.int (bs.getD j 0)) ∈ nL) : Lit (l, s, D, tA) own idx bs := by
  have z : ∀ i : Nat, i < 1 → i = 0 := fun i hi => by omega
  obtain ⟨adK, adV, hS, hev⟩ := vk_Sof (args := #[Value.ref b]) (s := s) (N := 1) (tm := fun _ => .string own idx) (len := [bs.length]) (byt := [bs]) (A := oldA (l, s, D, tA)) (fun i hi => by rw [z i hi]; exact hb) (fun i _ => hN _ m1) (fun i _ => hN _ m2) (fun i _ => hN _ m3) (fun i hi => by rw [z i hi]; exact hN _ m4) (fun i hi j hj => by rw [z i hi] at hj ⊢; exact hN _ (m5 j hj)) (fun i j hi hj hij => absurd ((z i hi).trans (z j hj).symm) hij) old_lt
  obtain ⟨h1, h2, h3, h4⟩ := hS.1 0 (by decide)
  exact ⟨tx, adK 0, vk_R.of (hT _ hr) (hev 0 (by decide)), adV 0, h1, h2, h3, h4⟩
theorem f_ZCom (hT : ∀ w ∈ lw_tbl, w.before #[Value.ref b] s = true) (hN : ∀ c ∈ nL, c.before #[Value.ref b] s = true) : ZCom (l, s, D, tA) := va_Zof (hT _ sw_152) (hT _ sw_8) (va_eqt (hN _ (show Cond.eq (.static "java/lang/String" "COMPACT_STRINGS" "Z") (.int 1) ∈ nL by decide +kernel))) old_lt
theorem f_OldE (hT : ∀ w ∈ lw_tbl, w.before #[Value.ref b] s = true) (hN : ∀ c ∈ nL, c.before #[Value.ref b] s = true) : ∃ e, OldE (l, s, D, tA) e := by
  obtain ⟨t, h1, h2⟩ := va_Tof (args := #[Value.ref b]) (s := s) (tm := .static "java/util/ArrayList" "DEFAULTCAPACITY_EMPTY_ELEMENTDATA" "[Ljava/lang/Object;") (ty := .object "java/lang/Object") (N := 0) (f := fun _ => .null) (A := oldA (l, s, D, tA)) (by decide) (hN _ (by decide +kernel)) (va_eqt (hN _ (show Cond.eq (.length (.static "java/util/ArrayList" "DEFAULTCAPACITY_EMPTY_ELEMENTDATA" "[Ljava/lang/Object;")) (.int (Int32.ofNat 0)) ∈ nL by decide +kernel))) (fun j hj => absurd hj (Nat.not_lt_zero j)) old_lt
  exact ⟨t, h2, va_Zref (hT _ sw_53) (hT _ sw_4) h1 old_lt⟩
theorem f_ZHid (hT : ∀ w ∈ lw_tbl, w.before #[Value.ref b] s = true) (hN : ∀ c ∈ nL, c.before #[Value.ref b] s = true) : ZHid (l, s, D, tA) := by
  have hm : ∀ j, j < 8 → Cond.eq (.elem (.static "DiaryHouse" "HIDING_ORDER" "[I") (.int (Int32.ofNat j))) (.int (hidO.getD j 0)) ∈ nL := by decide +kernel
  obtain ⟨t, h1, h2⟩ := va_Tof (args := #[Value.ref b]) (s := s) (tm := .static "DiaryHouse" "HIDING_ORDER" "[I") (ty := .int) (N := 8) (f := fun j => .int (hidO.getD j 0)) (A := oldA (l, s, D, tA)) (by decide) (hN _ (by decide +kernel)) (va_eqt (hN _ (show Cond.eq (.length (.static "DiaryHouse" "HIDING_ORDER" "[I")) (.int (Int32.ofNat 8)) ∈ nL by decide +kernel))) (fun j hj => va_eqt (hN _ (hm j hj))) old_lt
  exact ⟨t, va_Zref (hT _ sw_1019) (hT _ sw_1) h1 old_lt, h2⟩
theorem f_ZMir (hN : ∀ c ∈ nL, c.before #[Value.ref b] s = true) : ∃ mi, ZMir (l, s, D, tA) mi := va_Mi.of (hN _ (show Cond.isRef (.mirror "[Ljava/lang/Object;") ∈ nL by decide +kernel))
theorem lit_142 (hT : ∀ w ∈ lw_tbl, w.before #[Value.ref b] s = true) (hN : ∀ c ∈ nL, c.before #[Value.ref b] s = true) : Lit (l, s, D, tA) "DiaryHouse" 63 pLetters := lit_of hT hN pLetters (by decide) sw_142 (by decide +kernel) (by decide +kernel) (by decide +kernel) (by decide +kernel) (by decide +kernel)
theorem lit_470 (hT : ∀ w ∈ lw_tbl, w.before #[Value.ref b] s = true) (hN : ∀ c ∈ nL, c.before #[Value.ref b] s = true) : Lit (l, s, D, tA) "DiaryHouse$Tape" 47 pLabels := lit_of hT hN pLabels (by decide) sw_470 (by decide +kernel) (by decide +kernel) (by decide +kernel) (by decide +kernel) (by decide +kernel)
theorem lit_556 (hT : ∀ w ∈ lw_tbl, w.before #[Value.ref b] s = true) (hN : ∀ c ∈ nL, c.before #[Value.ref b] s = true) : Lit (l, s, D, tA) "DiaryHouse$Tape" 60 [58] := lit_of hT hN [58] (by decide) sw_556 (by decide +kernel) (by decide +kernel) (by decide +kernel) (by decide +kernel) (by decide +kernel)
theorem lit_561 (hT : ∀ w ∈ lw_tbl, w.before #[Value.ref b] s = true) (hN : ∀ c ∈ nL, c.before #[Value.ref b] s = true) : Lit (l, s, D, tA) "DiaryHouse$Tape" 62 [33, 40] := lit_of hT hN [33, 40] (by decide) sw_561 (by decide +kernel) (by decide +kernel) (by decide +kernel) (by decide +kernel) (by decide +kernel)
theorem lit_574 (hT : ∀ w ∈ lw_tbl, w.before #[Value.ref b] s = true) (hN : ∀ c ∈ nL, c.before #[Value.ref b] s = true) : Lit (l, s, D, tA) "DiaryHouse$Tape" 94 [33] := lit_of hT hN [33] (by decide) sw_574 (by decide +kernel) (by decide +kernel) (by decide +kernel) (by decide +kernel) (by decide +kernel)
theorem lit_575 (hT : ∀ w ∈ lw_tbl, w.before #[Value.ref b] s = true) (hN : ∀ c ∈ nL, c.before #[Value.ref b] s = true) : Lit (l, s, D, tA) "DiaryHouse$Tape" 96 [40] := lit_of hT hN [40] (by decide) sw_575 (by decide +kernel) (by decide +kernel) (by decide +kernel) (by decide +kernel) (by decide +kernel)
theorem lit_576 (hT : ∀ w ∈ lw_tbl, w.before #[Value.ref b] s = true) (hN : ∀ c ∈ nL, c.before #[Value.ref b] s = true) : Lit (l, s, D, tA) "DiaryHouse$Tape" 98 [41] := lit_of hT hN [41] (by decide) sw_576 (by decide +kernel) (by decide +kernel) (by decide +kernel) (by decide +kernel) (by decide +kernel)
theorem lit_589 (hT : ∀ w ∈ lw_tbl, w.before #[Value.ref b] s = true) (hN : ∀ c ∈ nL, c.before #[Value.ref b] s = true) : Lit (l, s, D, tA) "DiaryHouse$Tape" 110 [91] := lit_of hT hN [91] (by decide) sw_589 (by decide +kernel) (by decide +kernel) (by decide +kernel) (by decide +kernel) (by decide +kernel)
theorem lit_590 (hT : ∀ w ∈ lw_tbl, w.before #[Value.ref b] s = true) (hN : ∀ c ∈ nL, c.before #[Value.ref b] s = true) : Lit (l, s, D, tA) "DiaryHouse$Tape" 112 [93] := lit_of hT hN [93] (by decide) sw_590 (by decide +kernel) (by decide +kernel) (by decide +kernel) (by decide +kernel) (by decide +kernel)
theorem lit_591 (hT : ∀ w ∈ lw_tbl, w.before #[Value.ref b] s = true) (hN : ∀ c ∈ nL, c.before #[Value.ref b] s = true) : Lit (l, s, D, tA) "DiaryHouse$Tape" 114 pLetters := lit_of hT hN pLetters (by decide) sw_591 (by decide +kernel) (by decide +kernel) (by decide +kernel) (by decide +kernel) (by decide +kernel)
theorem lit_597 (hT : ∀ w ∈ lw_tbl, w.before #[Value.ref b] s = true) (hN : ∀ c ∈ nL, c.before #[Value.ref b] s = true) : Lit (l, s, D, tA) "DiaryHouse$Tape" 108 [42, 47] := lit_of hT hN [42, 47] (by decide) sw_597 (by decide +kernel) (by decide +kernel) (by decide +kernel) (by decide +kernel) (by decide +kernel)
theorem lit_598 (hT : ∀ w ∈ lw_tbl, w.before #[Value.ref b] s = true) (hN : ∀ c ∈ nL, c.before #[Value.ref b] s = true) : Lit (l, s, D, tA) "DiaryHouse$Tape" 103 [43, 45] := lit_of hT hN [43, 45] (by decide) sw_598 (by decide +kernel) (by decide +kernel) (by decide +kernel) (by decide +kernel) (by decide +kernel)
theorem lit_603 (hT : ∀ w ∈ lw_tbl, w.before #[Value.ref b] s = true) (hN : ∀ c ∈ nL, c.before #[Value.ref b] s = true) : Lit (l, s, D, tA) "DiaryHouse$Tape" 71 [61, 60, 62] := lit_of hT hN [61, 60, 62] (by decide) sw_603 (by decide +kernel) (by decide +kernel) (by decide +kernel) (by decide +kernel) (by decide +kernel)
theorem lit_608 (hT : ∀ w ∈ lw_tbl, w.before #[Value.ref b] s = true) (hN : ∀ c ∈ nL, c.before #[Value.ref b] s = true) : Lit (l, s, D, tA) "DiaryHouse$Tape" 92 [38] := lit_of hT hN [38] (by decide) sw_608 (by decide +kernel) (by decide +kernel) (by decide +kernel) (by decide +kernel) (by decide +kernel)
theorem lit_613 (hT : ∀ w ∈ lw_tbl, w.before #[Value.ref b] s = true) (hN : ∀ c ∈ nL, c.before #[Value.ref b] s = true) : Lit (l, s, D, tA) "DiaryHouse$Tape" 87 [124] := lit_of hT hN [124] (by decide) sw_613 (by decide +kernel) (by decide +kernel) (by decide +kernel) (by decide +kernel) (by decide +kernel)
theorem lit_614 (hT : ∀ w ∈ lw_tbl, w.before #[Value.ref b] s = true) (hN : ∀ c ∈ nL, c.before #[Value.ref b] s = true) : Lit (l, s, D, tA) "DiaryHouse$Tape" 82 [63] := lit_of hT hN [63] (by decide) sw_614 (by decide +kernel) (by decide +kernel) (by decide +kernel) (by decide +kernel) (by decide +kernel)
theorem lit_615 (hT : ∀ w ∈ lw_tbl, w.before #[Value.ref b] s = true) (hN : ∀ c ∈ nL, c.before #[Value.ref b] s = true) : Lit (l, s, D, tA) "DiaryHouse$Tape" 39 [59] := lit_of hT hN [59] (by decide) sw_615 (by decide +kernel) (by decide +kernel) (by decide +kernel) (by decide +kernel) (by decide +kernel)
theorem lit_683 (hT : ∀ w ∈ lw_tbl, w.before #[Value.ref b] s = true) (hN : ∀ c ∈ nL, c.before #[Value.ref b] s = true) : Lit (l, s, D, tA) "DiaryHouse$Rule" 27 pLabels := lit_of hT hN pLabels (by decide) sw_683 (by decide +kernel) (by decide +kernel) (by decide +kernel) (by decide +kernel) (by decide +kernel)
theorem lit_696 (hT : ∀ w ∈ lw_tbl, w.before #[Value.ref b] s = true) (hN : ∀ c ∈ nL, c.before #[Value.ref b] s = true) : Lit (l, s, D, tA) "DiaryHouse$Rule" 47 pLetters := lit_of hT hN pLetters (by decide) sw_696 (by decide +kernel) (by decide +kernel) (by decide +kernel) (by decide +kernel) (by decide +kernel)
theorem lit_1152 (hT : ∀ w ∈ lw_tbl, w.before #[Value.ref b] s = true) (hN : ∀ c ∈ nL, c.before #[Value.ref b] s = true) : Lit (l, s, D, tA) "DiaryHouse" 141 [110, 111, 32, 115, 117, 99, 104, 32, 76, 73, 78, 69, 44, 32, 111, 114, 32, 110, 111, 116, 104, 105, 110, 103, 32, 111, 102, 32, 105, 116, 32, 98, 121, 32, 116, 104, 97, 116, 32, 110, 117, 109, 98, 101, 114] := lit_of hT hN [110, 111, 32, 115, 117, 99, 104, 32, 76, 73, 78, 69, 44, 32, 111, 114, 32, 110, 111, 116, 104, 105, 110, 103, 32, 111, 102, 32, 105, 116, 32, 98, 121, 32, 116, 104, 97, 116, 32, 110, 117, 109, 98, 101, 114] (by decide) sw_1152 (by decide +kernel) (by decide +kernel) (by decide +kernel) (by decide +kernel) (by decide +kernel)
theorem lit_1472 (hT : ∀ w ∈ lw_tbl, w.before #[Value.ref b] s = true) (hN : ∀ c ∈ nL, c.before #[Value.ref b] s = true) : Lit (l, s, D, tA) "DiaryHouseModel" 270 pLabels := lit_of hT hN pLabels (by decide) sw_1472 (by decide +kernel) (by decide +kernel) (by decide +kernel) (by decide +kernel) (by decide +kernel)
theorem lit_1506 (hT : ∀ w ∈ lw_tbl, w.before #[Value.ref b] s = true) (hN : ∀ c ∈ nL, c.before #[Value.ref b] s = true) : Lit (l, s, D, tA) "DiaryHouseModel" 225 pLetters := lit_of hT hN pLetters (by decide) sw_1506 (by decide +kernel) (by decide +kernel) (by decide +kernel) (by decide +kernel) (by decide +kernel)
theorem f_Th (hf : l.flags = flags0) (hT : ∀ w ∈ lw_tbl, w.before #[Value.ref b] s = true) (hN : ∀ c ∈ nL, c.before #[Value.ref b] s = true) : ThOK (l, s, D, tA) := by
  obtain ⟨tx, a, h1, -⟩ := lit_1152 (l := l) (D := D) (tA := tA) hT hN
  refine ⟨?_, vx_Zqof (hT _ sw_1140) (hT _ sw_19) (hN _ (by decide +kernel)) old_lt, vx_Zqof (hT _ sw_1142) (hT _ sw_19) (hN _ (by decide +kernel)) old_lt, tx, a, h1⟩
  show l.stackTraces = false
  unfold Launch.stackTraces
  rw [hf]
  decide
theorem f_G (hf : l.flags = flags0) (hT : ∀ w ∈ lw_tbl, w.before #[Value.ref b] s = true) (hN : ∀ c ∈ nL, c.before #[Value.ref b] s = true) : GOK (l, s, D, tA) :=
  ⟨⟨f_ZCom hT hN, lit_1506 hT hN, lit_1472 hT hN⟩, ⟨f_ZCom hT hN, lit_696 hT hN, lit_683 hT hN⟩,
   ⟨f_ZCom hT hN, (lit_589 hT hN), (lit_590 hT hN), (lit_591 hT hN), (lit_597 hT hN), (lit_598 hT hN), (lit_603 hT hN), (lit_574 hT hN), (lit_575 hT hN), (lit_576 hT hN), (lit_608 hT hN), (lit_613 hT hN), (lit_470 hT hN), (lit_556 hT hN), (lit_561 hT hN), (lit_614 hT hN), (lit_615 hT hN)⟩, f_Th hf hT hN, f_ZHid hT hN, f_ZMir hN⟩
end FAC
