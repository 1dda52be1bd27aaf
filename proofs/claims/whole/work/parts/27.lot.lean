/-! lots: the row of those not drawn, and the model's way through it -/
theorem lot_s (np : Nat) (seed : Int64) (k : Nat) : lotS np seed (k + 1) = (lotN (lotS np seed k).1, (lotS np seed k).2.1.eraseIdx (((lotN (lotS np seed k).1).toUInt64 >>> 33).toNat % (lotS np seed k).2.1.length), (lotS np seed k).2.2 ++ [(lotS np seed k).2.1.getD (((lotN (lotS np seed k).1).toUInt64 >>> 33).toNat % (lotS np seed k).2.1.length) 0]) := rfl
theorem lot_ok (np : Nat) (seed : Int64) : ∀ k, k ≤ np → (lotS np seed k).2.1.Pairwise (· < ·) ∧ (lotS np seed k).2.1.length = np - k ∧ (∀ p ∈ (lotS np seed k).2.1, p < np) ∧ (lotS np seed k).2.2.length = k
  | 0, _ => ⟨List.pairwise_lt_range, List.length_range, fun p h => List.mem_range.mp h, rfl⟩
  | k + 1, h => by
    obtain ⟨h1, h2, h3, h4⟩ := lot_ok np seed k (by omega)
    rw [lot_s]
    generalize hj : ((lotN (lotS np seed k).1).toUInt64 >>> 33).toNat % (lotS np seed k).2.1.length = j
    have hjl : j < (lotS np seed k).2.1.length := by rw [← hj]; exact Nat.mod_lt _ (by omega)
    refine ⟨List.Pairwise.sublist (List.eraseIdx_sublist _ _) h1, ?_, fun p hp => h3 p (List.mem_of_mem_eraseIdx hp), ?_⟩
    · show ((lotS np seed k).2.1.eraseIdx j).length = _
      rw [List.length_eraseIdx_of_lt hjl, h2]; omega
    · show ((lotS np seed k).2.2 ++ _).length = _
      rw [List.length_append, h4]; rfl
/-- how many of the row stand below p -/
def cLow (rem : List Nat) (p : Nat) : Nat := rem.countP (fun a => decide (a < p))
theorem cLow_0 : ∀ rem, cLow rem 0 = 0
  | [] => rfl
  | a :: t => by
    have := cLow_0 t
    unfold cLow at *
    rw [List.countP_cons, this]; simp
theorem cLow_none {rem : List Nat} {p : Nat} (h : ∀ a ∈ rem, p ≤ a) : cLow rem p = 0 := by
  unfold cLow
  rw [List.countP_eq_zero]
  intro a ha
  have := h a ha
  simp; omega
theorem cLow_succ : ∀ {rem : List Nat}, rem.Pairwise (· < ·) → ∀ p, cLow rem (p + 1) = cLow rem p + (if p ∈ rem then 1 else 0)
  | [], _, _ => rfl
  | a :: t, h, p => by
    obtain ⟨h1, h2⟩ := List.pairwise_cons.mp h
    have ih := cLow_succ h2 p
    by_cases e : a = p
    · subst e
      have e1 : cLow t (a + 1) = 0 := cLow_none (fun b hb => h1 b hb)
      have e2 : cLow t a = 0 := cLow_none (fun b hb => Nat.le_of_lt (h1 b hb))
      unfold cLow at *
      rw [List.countP_cons, List.countP_cons, e1, e2]
      simp
    · have e3 : (p ∈ a :: t) ↔ p ∈ t := by
        rw [List.mem_cons]
        exact ⟨fun z => z.elim (fun y => absurd y.symm e) id, Or.inr⟩
      unfold cLow at *
      rw [List.countP_cons, List.countP_cons, ih]
      simp only [e3]
      by_cases e4 : a < p
      · simp [e4, Nat.lt_succ_of_lt e4]; omega
      · have : ¬ a < p + 1 := by omega
        simp [e4, this]
theorem cLow_at : ∀ {rem : List Nat}, rem.Pairwise (· < ·) → ∀ j, j < rem.length → cLow rem (rem.getD j 0) = j
  | [], _, _, h => absurd h (Nat.not_lt_zero _)
  | a :: t, h, 0, _ => by
    obtain ⟨h1, h2⟩ := List.pairwise_cons.mp h
    exact cLow_none (fun b hb => by
      rcases List.mem_cons.mp hb with rfl | hb
      · exact Nat.le_refl _
      · exact Nat.le_of_lt (h1 b hb))
  | a :: t, h, j + 1, hj => by
    obtain ⟨h1, h2⟩ := List.pairwise_cons.mp h
    have hjt : j < t.length := by simpa using hj
    have ih := cLow_at h2 j hjt
    have hm : t.getD j 0 ∈ t := by rw [List.getD_eq_getElem?_getD, List.getElem?_eq_getElem hjt]; exact List.getElem_mem hjt
    have := h1 _ hm
    show cLow (a :: t) (t.getD j 0) = j + 1
    unfold cLow at *
    rw [List.countP_cons, ih, if_pos (decide_eq_true this)]
theorem getD_mem {rem : List Nat} {j : Nat} (h : j < rem.length) : rem.getD j 0 ∈ rem := by
  rw [List.getD_eq_getElem?_getD, List.getElem?_eq_getElem h]; exact List.getElem_mem h
theorem mem_erase_at {rem : List Nat} (hp : rem.Pairwise (· < ·)) {j : Nat} (h : j < rem.length) (p : Nat) : p ∈ rem.eraseIdx j ↔ p ∈ rem ∧ p ≠ rem.getD j 0 := by
  have hg : rem.getD j 0 = rem[j] := by rw [List.getD_eq_getElem?_getD, List.getElem?_eq_getElem h]; rfl
  rw [List.mem_eraseIdx_iff_getElem, hg]
  constructor
  · rintro ⟨i, hi, hne, rfl⟩
    refine ⟨List.getElem_mem hi, fun e => ?_⟩
    have hpw := List.pairwise_iff_getElem.mp hp
    rcases Nat.lt_or_ge i j with z | z
    · exact absurd (hpw i j hi h z) (by omega)
    · exact absurd (hpw j i h hi (by omega)) (by omega)
  · rintro ⟨h1, h2⟩
    obtain ⟨i, hi, rfl⟩ := List.getElem_of_mem h1
    exact ⟨i, hi, fun e => h2 (by subst e; rfl), rfl⟩
theorem ushr33 (x : Int64) : (x.toUInt64 >>> ((33 : Int32).toInt64.toUInt64 &&& Int64.toUInt64 63)).toInt64 = lN (x.toUInt64 >>> 33).toNat := by
  have e : ((33 : Int32).toInt64.toUInt64 &&& Int64.toUInt64 63) = 33 := by decide
  rw [e]
  generalize x.toUInt64 >>> 33 = u
  rw [show lN u.toNat = (UInt64.ofNat u.toNat).toInt64 from rfl, UInt64.ofNat_toNat]
theorem ushr33_lt (x : Int64) : (x.toUInt64 >>> 33).toNat < 2 ^ 31 := by
  rw [UInt64.toNat_shiftRight]
  have := x.toUInt64.toNat_lt
  rw [show (33 : UInt64).toNat % 64 = 33 from rfl, Nat.shiftRight_eq_div_pow]
  omega
/-- the place drawn, as the machine works it out -/
theorem lot_left (x : Int64) {np k : Nat} (hk : k < np) (hn : np ≤ 24) :
    (((x.toUInt64 >>> ((33 : Int32).toInt64.toUInt64 &&& Int64.toUInt64 63)).toInt64 - (x.toUInt64 >>> ((33 : Int32).toInt64.toUInt64 &&& Int64.toUInt64 63)).toInt64 / (nI np - nI k).toInt64 * (nI np - nI k).toInt64)).toInt32 = nI ((x.toUInt64 >>> 33).toNat % (np - k)) := by
  rw [ushr33, pk_sub (by omega), nI_l (by omega), pk_lRem (by have := ushr33_lt x; omega) (by omega) (by omega), lN_i]
theorem lot_step (np : Nat) (seed : Int64) (i : Nat) (h : i < np) : ∃ (x : Int64) (j t : Nat) (rem : List Nat), (lotS np seed i).1 * 6364136223846793005 + 1442695040888963407 = x ∧ (lotS np seed i).2.1 = rem ∧ (x.toUInt64 >>> 33).toNat % (np - i) = j ∧ j < rem.length ∧ rem.getD j 0 = t ∧ lotS np seed (i + 1) = (x, rem.eraseIdx j, (lotS np seed i).2.2 ++ [t]) ∧ t ∈ rem ∧ t < np ∧ cLow rem t = j ∧ rem.Pairwise (· < ·) ∧ (lotS np seed i).2.2.length = i := by
  obtain ⟨o1, o2, o3, o4⟩ := lot_ok np seed i (by omega)
  have hjl : ((lotN (lotS np seed i).1).toUInt64 >>> 33).toNat % (np - i) < (lotS np seed i).2.1.length := by rw [o2]; exact Nat.mod_lt _ (by omega)
  refine ⟨lotN (lotS np seed i).1, ((lotN (lotS np seed i).1).toUInt64 >>> 33).toNat % (np - i), _, (lotS np seed i).2.1, rfl, rfl, rfl, hjl, rfl, ?_, getD_mem hjl, o3 _ (getD_mem hjl), cLow_at o1 _ hjl, o1, o4⟩
  rw [lot_s, o2]
section MDF
variable {G : Gam} {d : Nat} {k : Nat × Nat} {ad : Nat → Nat} {σ σ0 : MS} {M : Mem} {Q : Option Value → Mem → Prop}
/-- nothing but the rows seen and drawn is another -/
def dKeep (σ σ' : MS) : Prop := σ'.1 = σ.1 ∧ ∀ k, k ≠ 43 → k ≠ 64 → σ'.2 k = σ.2 k
theorem dKeep.seta {σ σ' : MS} {k i : Nat} {v : Int32} (h : dKeep σ σ') (hk : k = 43 ∨ k = 64) : dKeep σ (seta σ' k i v) := by
  refine ⟨h.1, fun j h1 h2 => ?_⟩
  rw [seta_ne (by omega)]
  exact h.2 j h1 h2
def dDone (σ σ' : MS) (np : Nat) (seed : Int64) (n : Nat) : Prop := dKeep σ σ' ∧ (∀ p, p < np → σ'.2 43 p = if p ∈ (lotS np seed n).2.1 then 0 else 1) ∧ ∀ i, i < n → σ'.2 64 i = nI ((lotS np seed n).2.2.getD i 0)
theorem c_X12_draws {n : Int32} {seed : Int64} (hi : adOK ad) (hc : Cnt σ) (hq : ¬ (1 ≤ n ∧ n ≤ σ.1 15) → Q (some (.int 0)) (mm ad σ)) (hq2 : ∀ (N : Nat) (σ' : MS), n = nI N → 1 ≤ N → N ≤ cn σ 15 → dDone σ σ' (cn σ 15) seed N → Q (some (.int 1)) (mm ad σ')) : CT G (d + 1) (0, 0) MX12_draws [.ref (ad 99), .int n, .long seed] (mm ad σ) Q := by
  obtain ⟨hp1, hp2⟩ := hc.b 15 (b := 24) (by decide)
  refine CT.of rfl (Nat.le_of_ble_eq_true rfl) ?_
  refine x_iload_n dX12_draws_0 rfl rfl ?_
  refine x_iconst (v := 1) dX12_draws_1 (by decide) ?_
  refine x_aload_n dX12_draws_2 rfl rfl ?_
  refine xm_geti dX12_draws_3 lf_X12_149 vmi_15 ?_
  refine x_cS3 dX12_draws_6 ls_X12_145 rfl  (c_X12_isIn ?_)
  refine x_if_ne_b (tgt := 14) dX12_draws_9 (by decide) (fun h9 => ?_) (fun h9 => ?_)
  · obtain ⟨N, hN, rfl⟩ := of_le (n := cn σ 15) (c := σ.1 15) (l := n) (by have h8 := h9.1; rw [Int32.le_iff_toInt_le] at h8 ⊢; have e1 : (1 : Int32).toInt = 1 := rfl; have e0 : (0 : Int32).toInt = 0 := rfl; rw [e1] at h8; rw [e0]; omega) h9.2 hp1 (by omega)
    have hN1 : 1 ≤ N := (nI_leI (a := 1) (b := N) (by decide) (by omega)).mp h9.1
    have hq2 := fun σ' => hq2 N σ' rfl hN1 hN
    generalize hnp : cn σ 15 = np at *
    refine x_iconst (v := 0) dX12_draws_14 (by decide) ?_
    refine x_istore dX12_draws_15 (by decide) ?_
    refine x_loc [(0, .ref (ad 99)), (1, .int (nI N)), (2, .long seed), (4, .int (nI 0))] ⟨rfl, rfl, rfl, rfl, trivial⟩ ?_
    refine loop_up (P := fun i => ∀ σ', dKeep σ σ' → (∀ p, p < i → σ'.2 43 p = 0) → XJ G (d + 1) (0, 0) MX12_draws (mm ad σ') [(0, .ref (ad 99)), (1, .int (nI N)), (2, .long seed), (4, .int (nI i))] [] 17 Q) (n := np) ?_ ?_ 0 (Nat.zero_le _) σ ⟨rfl, fun _ _ _ => rfl⟩ (fun p h => absurd h (Nat.not_lt_zero p))
    · intro σ1 hk1 hz1
      have hcnt : σ1.1 15 = nI np := by rw [hk1.1]; exact hp1
      refine x_iload dX12_draws_17 rfl ?_
      refine x_aload_n dX12_draws_19 rfl rfl ?_
      refine xm_geti dX12_draws_20 lf_X12_149 vmi_15 ?_
      refine x_icmp_ge (tgt := 40) dX12_draws_23 (by decide) (fun _ => ?_) (fun z => absurd (by rw [hcnt]; exact Int32.le_refl _) z)
      refine x_lload_n dX12_draws_40 rfl rfl ?_
      refine x_lstore dX12_draws_41 (by decide) ?_
      refine x_iconst (v := 0) dX12_draws_43 (by decide) ?_
      refine x_istore dX12_draws_44 (by decide) ?_
      refine x_loc [(0, .ref (ad 99)), (1, .int (nI N)), (4, .long (lotS np seed 0).1), (6, .int (nI 0))] ⟨rfl, rfl, rfl, rfl, trivial⟩ ?_
      refine loop_up (P := fun i => ∀ σ', dDone σ σ' np seed i → XJ G (d + 1) (0, 0) MX12_draws (mm ad σ') [(0, .ref (ad 99)), (1, .int (nI N)), (4, .long (lotS np seed i).1), (6, .int (nI i))] [] 46 Q) (n := N) ?_ ?_ 0 (Nat.zero_le _) σ1 ⟨hk1, fun p h => (hz1 p h).trans (if_pos (List.mem_range.mpr h)).symm, fun i h => absurd h (Nat.not_lt_zero i)⟩
      · intro σ2 h2
        refine x_iload dX12_draws_46 rfl ?_
        refine x_iload_n dX12_draws_48 rfl rfl ?_
        refine x_icmp_ge (tgt := 148) dX12_draws_49 (by decide) (fun _ => ?_) (fun z => absurd (Int32.le_refl _) z)
        refine x_iconst (v := 1) dX12_draws_148 (by decide) ?_
        exact x_ireturn dX12_draws_149 rfl rfl (hq2 σ2 h2)
      · intro i hlt ih σ2 h2
        obtain ⟨x, j, t, rem, hxe, hrem, hj, hjl, ht, hl, htm, htn, hct, o1, o4⟩ := lot_step np seed i (by omega)
        have hj24 : j < 24 := by rw [← hj]; exact Nat.lt_of_lt_of_le (Nat.mod_lt _ (by omega)) (by omega)
        have h3 : ∀ p, p < np → σ2.2 43 p = if p ∈ rem then 0 else 1 := by rw [← hrem]; exact h2.2.1
        have hmono : ∀ a b, a ≤ b → cLow rem a ≤ cLow rem b := by
          intro a b hab
          induction hab with
          | refl => exact Nat.le_refl _
          | step _ ihm => exact Nat.le_trans ihm (by rw [cLow_succ o1]; omega)
        have hcn2 : σ2.1 15 = nI np := by rw [h2.1.1]; exact hp1
        have hini : vp_in (nI i) 24 := vp_in_nI (by omega) (by decide)
        have hcli : (nI i).toNatClampNeg = i := nI_clamp (by omega)
        refine x_iload dX12_draws_46 rfl ?_
        refine x_iload_n dX12_draws_48 rfl rfl ?_
        refine x_icmp_ge (tgt := 148) dX12_draws_49 (by decide) (fun z => absurd z (Int32.not_le.mpr (nI_lt hlt (by omega)))) (fun _ => ?_)
        refine x_lload dX12_draws_52 rfl ?_
        refine x_ldc2 dX12_draws_54 tb1739 ?_
        refine x_lmul dX12_draws_57 ?_
        refine x_ldc2 dX12_draws_58 tb1740 ?_
        refine x_ladd dX12_draws_61 ?_
        refine x_lstore dX12_draws_62 (by decide) ?_
        refine x_lload dX12_draws_64 rfl ?_
        refine x_bipush (v := 33) dX12_draws_66 (by decide) ?_
        refine x_lushr dX12_draws_68 ?_
        refine x_aload_n dX12_draws_69 rfl rfl ?_
        refine xm_geti dX12_draws_70 lf_X12_149 vmi_15 ?_
        refine x_iload dX12_draws_73 rfl ?_
        refine x_isub dX12_draws_75 ?_
        refine x_i2l dX12_draws_76 ?_
        refine x_lrem dX12_draws_77 (by rw [hcn2, pk_sub (by omega), nI_l (by omega)]; exact fun z => absurd ((lN_eq (a := np - i) (b := 0) (by omega) (by omega)).mp z) (by omega)) ?_
        refine x_l2i dX12_draws_78 ?_
        refine x_istore dX12_draws_79 (by decide) ?_
        refine x_loc [(0, .ref (ad 99)), (1, .int (nI N)), (4, .long x), (6, .int (nI i)), (7, .int (nI j))] ⟨rfl, rfl, congrArg some (congrArg Value.long hxe), rfl, ?_, trivial⟩ ?_
        · refine congrArg some (congrArg Value.int ?_)
          rw [hcn2, hxe, lot_left x (by omega) (by omega), hj]
        refine x_iconst (v := 0) dX12_draws_81 (by decide) ?_
        refine x_istore dX12_draws_82 (by decide) ?_
        refine x_loc [(0, .ref (ad 99)), (1, .int (nI N)), (4, .long x), (6, .int (nI i)), (7, .int (nI (j - cLow rem 0))), (8, .int (nI 0))] ⟨rfl, rfl, rfl, rfl, congrArg some (congrArg Value.int (by rw [cLow_0, Nat.sub_zero])), rfl, trivial⟩ ?_
        refine loop_up (P := fun p => XJ G (d + 1) (0, 0) MX12_draws (mm ad σ2) [(0, .ref (ad 99)), (1, .int (nI N)), (4, .long x), (6, .int (nI i)), (7, .int (nI (j - cLow rem p))), (8, .int (nI p))] [] 84 Q) (n := t) ?_ ?_ 0 (Nat.zero_le _)
        · have hin : vp_in (nI t) 24 := vp_in_nI (by omega) (by decide)
          have hcl : (nI t).toNatClampNeg = t := nI_clamp (by omega)
          have hs : σ2.2 43 t = 0 := by rw [h3 t htn, if_pos htm]
          refine x_aload_n dX12_draws_84 rfl rfl ?_
          refine xm_geta dX12_draws_85 lf_X12_90 vma_43 ?_
          refine x_iload dX12_draws_88 rfl ?_
          refine xm_zald 43 dX12_draws_90 mf_43 hi hin hcl ?_
          refine x_if_ne (tgt := 99) dX12_draws_91 (by decide) (fun z => absurd hs z) (fun _ => ?_)
          refine x_iload dX12_draws_94 rfl ?_
          refine x_if_le (tgt := 125) dX12_draws_96 (by decide) (fun _ => ?_) (fun z => absurd (by rw [hct, Nat.sub_self]; exact Int32.le_refl _) z)
          refine x_aload_n dX12_draws_125 rfl rfl ?_
          refine xm_geta dX12_draws_126 lf_X12_90 vma_43 ?_
          refine x_iload dX12_draws_129 rfl ?_
          refine x_iconst (v := 1) dX12_draws_131 (by decide) ?_
          refine xm_zast 43 dX12_draws_132 mf_43 hi hin hcl ?_
          refine x_aload_n dX12_draws_133 rfl rfl ?_
          refine xm_geta dX12_draws_134 lf_X12_135 vma_64 ?_
          refine x_iload dX12_draws_137 rfl ?_
          refine x_iload dX12_draws_139 rfl ?_
          refine xm_iast 64 dX12_draws_141 mf_64 hi hini hcli ?_
          refine x_iinc (c := 1) dX12_draws_142 rfl (by decide) ?_
          refine x_goto (tgt := 46) dX12_draws_145 (by decide) ?_
          refine x_loc _ (?_ : lle _ _) (ih _ ?_)
          · refine ⟨rfl, rfl, ?_, congrArg some (congrArg Value.int (nI_1 _)), trivial⟩
            rw [hl]; rfl
          · refine ⟨(h2.1.seta (Or.inl rfl)).seta (Or.inr rfl), fun p hp => ?_, fun a ha => ?_⟩
            · show (seta σ2 43 t (1 &&& 1)).2 43 p = _
              rw [seta_eq, hl]
              show _ = if p ∈ rem.eraseIdx j then 0 else 1
              by_cases e : p = t
              · subst e
                rw [updB_eq, if_neg (fun z => ((mem_erase_at o1 hjl p).mp z).2 ht.symm)]; rfl
              · rw [updB_ne e, h3 p hp]
                have := mem_erase_at o1 hjl p
                rw [ht] at this
                by_cases e2 : p ∈ rem
                · rw [if_pos e2, if_pos (this.mpr ⟨e2, e⟩)]
                · rw [if_neg e2, if_neg (fun z => e2 (this.mp z).1)]
            · rw [seta_eq, hl]
              show _ = nI (((lotS np seed i).2.2 ++ [t]).getD a 0)
              by_cases e : a = i
              · subst e
                rw [updB_eq, List.getD_eq_getElem?_getD, List.getElem?_append_right (by omega), o4, Nat.sub_self]; rfl
              · rw [updB_ne e]
                have hai : a < i := by omega
                show σ2.2 64 a = _
                rw [h2.2.2 a hai, List.getD_eq_getElem?_getD, List.getD_eq_getElem?_getD, List.getElem?_append_left (by omega)]
        · intro p hpt ihp
          have hin : vp_in (nI p) 24 := vp_in_nI (by omega) (by decide)
          have hcl : (nI p).toNatClampNeg = p := nI_clamp (by omega)
          have hs : σ2.2 43 p = if p ∈ rem then 0 else 1 := h3 p (by omega)
          have hc1 := cLow_succ o1 p
          have hc2 := hmono (p + 1) t (by omega)
          by_cases e : p ∈ rem
          · rw [if_pos e] at hs hc1
            refine x_aload_n dX12_draws_84 rfl rfl ?_
            refine xm_geta dX12_draws_85 lf_X12_90 vma_43 ?_
            refine x_iload dX12_draws_88 rfl ?_
            refine xm_zald 43 dX12_draws_90 mf_43 hi hin hcl ?_
            refine x_if_ne (tgt := 99) dX12_draws_91 (by decide) (fun z => absurd hs z) (fun _ => ?_)
            refine x_iload dX12_draws_94 rfl ?_
            refine x_if_le (tgt := 125) dX12_draws_96 (by decide) (fun z => absurd z (by rw [show j - cLow rem p = j - cLow rem (p + 1) + 1 by omega]; exact nI_nle (by omega) (by omega))) (fun _ => ?_)
            refine x_iload dX12_draws_99 rfl ?_
            refine x_aload_n dX12_draws_101 rfl rfl ?_
            refine xm_geta dX12_draws_102 lf_X12_90 vma_43 ?_
            refine x_iload dX12_draws_105 rfl ?_
            refine xm_zald 43 dX12_draws_107 mf_43 hi hin hcl ?_
            refine x_if_eq (tgt := 115) dX12_draws_108 (by decide) (fun _ => ?_) (fun z => absurd hs z)
            refine x_iconst (v := 1) dX12_draws_115 (by decide) ?_
            refine x_isub dX12_draws_116 ?_
            refine x_istore dX12_draws_117 (by decide) ?_
            refine x_iinc (c := 1) dX12_draws_119 rfl (by decide) ?_
            refine x_goto (tgt := 84) dX12_draws_122 (by decide) ?_
            refine x_loc _ (?_ : lle _ _) ihp
            refine ⟨rfl, rfl, rfl, rfl, ?_, congrArg some (congrArg Value.int (nI_1 _)), trivial⟩
            show some (Value.int (nI (j - cLow rem p) - 1)) = _
            rw [show j - cLow rem p = j - cLow rem (p + 1) + 1 by omega, nI_pred]
          · rw [if_neg e] at hs hc1
            refine x_aload_n dX12_draws_84 rfl rfl ?_
            refine xm_geta dX12_draws_85 lf_X12_90 vma_43 ?_
            refine x_iload dX12_draws_88 rfl ?_
            refine xm_zald 43 dX12_draws_90 mf_43 hi hin hcl ?_
            refine x_if_ne (tgt := 99) dX12_draws_91 (by decide) (fun _ => ?_) (fun z => absurd z (by rw [hs]; decide))
            refine x_iload dX12_draws_99 rfl ?_
            refine x_aload_n dX12_draws_101 rfl rfl ?_
            refine xm_geta dX12_draws_102 lf_X12_90 vma_43 ?_
            refine x_iload dX12_draws_105 rfl ?_
            refine xm_zald 43 dX12_draws_107 mf_43 hi hin hcl ?_
            refine x_if_eq (tgt := 115) dX12_draws_108 (by decide) (fun z => absurd z (by rw [hs]; decide)) (fun _ => ?_)
            refine x_iconst (v := 0) dX12_draws_111 (by decide) ?_
            refine x_goto (tgt := 116) dX12_draws_112 (by decide) ?_
            refine x_isub dX12_draws_116 ?_
            refine x_istore dX12_draws_117 (by decide) ?_
            refine x_iinc (c := 1) dX12_draws_119 rfl (by decide) ?_
            refine x_goto (tgt := 84) dX12_draws_122 (by decide) ?_
            refine x_loc _ (?_ : lle _ _) ihp
            refine ⟨rfl, rfl, rfl, rfl, ?_, congrArg some (congrArg Value.int (nI_1 _)), trivial⟩
            show some (Value.int (nI (j - cLow rem p) - 0)) = _
            rw [show cLow rem (p + 1) = cLow rem p by omega, Int32.sub_zero]
    · intro i hlt ih σ1 hk1 hz1
      have hcnt : σ1.1 15 = nI np := by rw [hk1.1]; exact hp1
      have hin : vp_in (nI i) 24 := vp_in_nI (by omega) (by decide)
      have hcl : (nI i).toNatClampNeg = i := nI_clamp (by omega)
      refine x_iload dX12_draws_17 rfl ?_
      refine x_aload_n dX12_draws_19 rfl rfl ?_
      refine xm_geti dX12_draws_20 lf_X12_149 vmi_15 ?_
      refine x_icmp_ge (tgt := 40) dX12_draws_23 (by decide) (fun z => absurd z (by rw [hcnt]; exact Int32.not_le.mpr (nI_lt hlt (by omega)))) (fun _ => ?_)
      refine x_aload_n dX12_draws_26 rfl rfl ?_
      refine xm_geta dX12_draws_27 lf_X12_90 vma_43 ?_
      refine x_iload dX12_draws_30 rfl ?_
      refine x_iconst (v := 0) dX12_draws_32 (by decide) ?_
      refine xm_zast 43 dX12_draws_33 mf_43 hi hin hcl ?_
      refine x_iinc (c := 1) dX12_draws_34 rfl (by decide) ?_
      refine x_goto (tgt := 17) dX12_draws_37 (by decide) ?_
      refine x_loc _ (?_ : lle _ _) (ih _ (hk1.seta (Or.inl rfl)) (fun p hp => ?_))
      · exact ⟨rfl, rfl, rfl, congrArg some (congrArg Value.int (nI_1 _)), trivial⟩
      · rw [seta_eq]
        by_cases e : p = i
        · subst e; rw [updB_eq]; rfl
        · rw [updB_ne e]; exact hz1 p (by omega)
  · refine x_iconst (v := 0) dX12_draws_12 (by decide) ?_
    exact x_ireturn dX12_draws_13 rfl rfl (hq h9)
end MDF
