/-! the class, 12: watchers and wanted; the plan; what the table shows -/
theorem Cnt_up {σ σ' : MS} {k m : Nat} (hc : Cnt σ) (h : ∀ j, ¬ j = k → σ'.1 j = σ.1 j) (hv : σ'.1 k = nI m) (hm : ∀ q ∈ mBnd, q.1 = k → m ≤ q.2) (h31 : m < 2 ^ 31) : Cnt σ' := by
  intro q hq
  have h1 := hc q hq
  unfold Bnd cn at *
  by_cases e : q.1 = k
  · rw [e, hv, nI_clamp h31]; exact ⟨rfl, hm q hq e⟩
  · rw [h _ e]; exact h1
/-- what the plan's state stands for -/
def Pln (σ κ : MS) : Prop := ∃ t0 : TT, t0.2.2 = -1 ∧ TE σ 0 (kT κ) (tryT σ (cn σ 60) 0 0 t0)
theorem Pln_k {σ κ κ' : MS} (h1 : κ'.1 98 = κ.1 98) (h2 : κ'.2 24 = κ.2 24) (h3 : κ'.2 25 = κ.2 25) (h : Pln σ κ) : Pln σ κ' := by
  obtain ⟨t0, a, b⟩ := h
  refine ⟨t0, a, ?_⟩
  have : kT κ' = kT κ := by unfold kT; rw [h1, h2, h3]
  rw [this]; exact b
def KQ (κ κ' : MS) : Prop := (∀ k, ¬ k = 92 → ¬ k = 95 → ¬ k = 98 → κ'.1 k = κ.1 k) ∧ ∀ r, (r < 20 ∨ 26 ≤ r) → κ'.2 r = κ.2 r
theorem KQ.rf {κ : MS} : KQ κ κ := ⟨fun _ _ _ _ => rfl, fun _ _ => rfl⟩
theorem KQ.b {a b c : MS} (h1 : KQ a b) (h2 : KB b c) : KQ a c := ⟨fun k x y z => (h2.1 k z).trans (h1.1 k x y z), fun r x => (h2.2 r (by omega) (by omega)).trans (h1.2 r x)⟩
def wN (σ : MS) (a b : Int32) : MS := seti (seta (seta σ 53 (cn σ 59) a) 54 (cn σ 59) b) 59 (σ.1 59 + 1)
def wM (σ : MS) (a b : Int32) : MS := seti (seta (seta σ 55 (cn σ 60) a) 56 (cn σ 60) b) 60 (σ.1 60 + 1)
theorem Kap_KQ {σ σ' κ κ' : MS} (h : KQ κ κ') (h1 : σ'.1 1 = σ.1 1) (h2 : σ'.1 24 = σ.1 24) (h3 : σ'.2 18 = σ.2 18) (h4 : σ'.2 50 = σ.2 50) (hT : TabK σ' κ') (hK : Kap σ κ) : Kap σ' κ' := by
  obtain ⟨k1, k2, k3, -, k5⟩ := hK
  refine ⟨by rw [h1, h.1 0 (by decide) (by decide) (by decide)]; exact k1, by rw [h2, h.1 81 (by decide) (by decide) (by decide)]; exact k2, ?_, hT, fun p s hp hs => by rw [h.2 (30 + p) (by omega), h4]; exact k5 p s hp hs⟩
  unfold cn
  rw [h2, h3, h.2 17 (by decide)]
  exact k3
section CLK
variable {G : Gam} {d : Nat} {τ : Nat → Nat} {ω : Nat → Nat → Nat} {ε : Nat → Nat} {σ κ : MS} {Md : Mem} {M : Mem} {Q : Option Value → Mem → Prop} {k : Nat}
theorem c_X8_planAnew (hi : adOK τ) (hc : Cnt σ) (hT : TabK σ κ) (hH : HoB σ) (hq : ∀ κ', KB κ κ' → Pln σ κ' → Q none (cm τ κ' Md)) : CT G (d + cn σ 60 + 4) (0, 0) MX8_planAnew [.ref (τ 9)] (cm τ κ Md) Q := by
  have hk1 : KB κ (seti κ 98 (-1)) := ⟨fun k hk => seti_ne hk, fun _ _ _ => rfl⟩
  refine CT.of rfl (Nat.le_of_ble_eq_true rfl) ?_
  refine x_aload_n dX8_planAnew_0 rfl rfl ?_
  refine x_iconst (v := -1) dX8_planAnew_1 (by decide) ?_
  refine xk_puti dX8_planAnew_2 lp_X8_37 (kc hi kf_9) rfl rfl (kp_9_8 hi) ?_
  refine x_aload_n dX8_planAnew_5 rfl rfl ?_
  refine x_iconst (v := 0) dX8_planAnew_6 (by decide) ?_
  refine x_iconst (v := 0) dX8_planAnew_7 (by decide) ?_
  refine x_cS3 dX8_planAnew_8 ls_X8_47 rfl  (c_X8_tryFrom hi hc hH (cn σ 60) 0 0 (seti κ 98 (-1)) (kT (seti κ 98 (-1))) _ d (by omega) (Nat.le_refl 0) (TabK_KB hk1 hT) ⟨fun _ _ => rfl, rfl, fun _ _ _ => rfl⟩ ?_)
  intro κ2 hk2 hE2
  exact x_return dX8_planAnew_11 rfl (hq κ2 (hk1.tr hk2) ⟨_, rfl, hE2⟩)
theorem TabK_wN {a b : Int32} (hc : Cnt σ) (hT : TabK σ κ) : TabK (wN σ a b) (seti (seta (seta κ 20 (cn σ 59) a) 21 (cn σ 59) b) 92 (nI (cn σ 59) + 1)) := by
  obtain ⟨h1, h2⟩ := hc.b 59 (b := 4) (by decide)
  have hn : cn (wN σ a b) 59 = cn σ 59 + 1 := by
    show (σ.1 59 + 1).toNatClampNeg = _
    rw [h1, nI_1, nI_clamp (by omega)]
  refine ⟨?_, hT.2.1, ?_, hT.2.2.2⟩
  · show nI (cn σ 59) + 1 = σ.1 59 + 1
    rw [← h1]
  · rw [hn]
    intro i hi
    show updB (κ.2 20) (cn σ 59) a i = updB (σ.2 53) (cn σ 59) a i ∧ updB (κ.2 21) (cn σ 59) b i = updB (σ.2 54) (cn σ 59) b i
    by_cases e : i = cn σ 59
    · rw [e, updB_eq, updB_eq, updB_eq, updB_eq]; exact ⟨rfl, rfl⟩
    · rw [updB_ne e, updB_ne e, updB_ne e, updB_ne e]; exact hT.2.2.1 i (by omega)
theorem TabK_wM {a b : Int32} (hc : Cnt σ) (hT : TabK σ κ) : TabK (wM σ a b) (seti (seta (seta κ 22 (cn σ 60) a) 23 (cn σ 60) b) 95 (nI (cn σ 60) + 1)) := by
  obtain ⟨h1, h2⟩ := hc.b 60 (b := 8) (by decide)
  have hn : cn (wM σ a b) 60 = cn σ 60 + 1 := by
    show (σ.1 60 + 1).toNatClampNeg = _
    rw [h1, nI_1, nI_clamp (by omega)]
  refine ⟨hT.1, ?_, hT.2.2.1, ?_⟩
  · show nI (cn σ 60) + 1 = σ.1 60 + 1
    rw [← h1]
  · rw [hn]
    intro i hi
    show updB (κ.2 22) (cn σ 60) a i = updB (σ.2 55) (cn σ 60) a i ∧ updB (κ.2 23) (cn σ 60) b i = updB (σ.2 56) (cn σ 60) b i
    by_cases e : i = cn σ 60
    · rw [e, updB_eq, updB_eq, updB_eq, updB_eq]; exact ⟨rfl, rfl⟩
    · rw [updB_ne e, updB_ne e, updB_ne e, updB_ne e]; exact hT.2.2.2 i (by omega)
theorem Cnt_wN {a b : Int32} (hc : Cnt σ) (hn : ¬ σ.1 59 = 4) : Cnt (wN σ a b) := by
  obtain ⟨h1, h2⟩ := hc.b 59 (b := 4) (by decide)
  have hlt : cn σ 59 < 4 := by
    have : ¬ cn σ 59 = 4 := fun z => hn (by rw [h1, z]; rfl)
    omega
  refine Cnt_up (k := 59) (m := cn σ 59 + 1) hc (fun j hj => seti_ne hj) ?_ ?_ (by omega)
  · show σ.1 59 + 1 = _
    rw [← nI_1, ← h1]
  · have : ∀ q ∈ mBnd, q.1 = 59 → q.2 = 4 := by decide
    intro q hq e
    rw [this q hq e]; omega
theorem Cnt_wM {a b : Int32} (hc : Cnt σ) (hn : ¬ σ.1 60 = 8) : Cnt (wM σ a b) := by
  obtain ⟨h1, h2⟩ := hc.b 60 (b := 8) (by decide)
  have hlt : cn σ 60 < 8 := by
    have : ¬ cn σ 60 = 8 := fun z => hn (by rw [h1, z]; rfl)
    omega
  refine Cnt_up (k := 60) (m := cn σ 60 + 1) hc (fun j hj => seti_ne hj) ?_ ?_ (by omega)
  · show σ.1 60 + 1 = _
    rw [← nI_1, ← h1]
  · have : ∀ q ∈ mBnd, q.1 = 60 → q.2 = 8 := by decide
    intro q hq e
    rw [this q hq e]; omega
theorem HoB_wM {a b : Int32} (hc : Cnt σ) (hH : HoB σ) (hb : 0 ≤ b ∧ b ≤ 23) : HoB (wM σ a b) := by
  obtain ⟨h1, h2⟩ := hc.b 60 (b := 8) (by decide)
  have hn : cn (wM σ a b) 60 = cn σ 60 + 1 := by
    show (σ.1 60 + 1).toNatClampNeg = _
    rw [h1, nI_1, nI_clamp (by omega)]
  intro i hi
  rw [hn] at hi
  show 0 ≤ updB (σ.2 56) (cn σ 60) b i ∧ updB (σ.2 56) (cn σ 60) b i ≤ 23
  by_cases e : i = cn σ 60
  · rw [e, updB_eq]; exact hb
  · rw [updB_ne e]; exact hH i (by omega)
theorem c_X8_addWatcher {a b : Int32} (hi : adOK τ) (hc : Cnt σ) (hT : TabK σ κ) (hH : HoB σ) (hq1 : σ.1 59 = 4 → Q (some (.int (-1))) (cm τ κ Md)) (hq2 : ¬ σ.1 59 = 4 → ∀ κ', KQ κ κ' → TabK (wN σ a b) κ' → Pln (wN σ a b) κ' → Q (some (.int (σ.1 59))) (cm τ κ' Md)) : CT G (d + cn σ 60 + 5) (0, 0) MX8_addWatcher [.ref (τ 9), .int a, .int b] (cm τ κ Md) Q := by
  obtain ⟨h59, h4⟩ := hc.b 59 (b := 4) (by decide)
  have hcl : (nI (cn σ 59)).toNatClampNeg = cn σ 59 := nI_clamp (by omega)
  have e0 : κ.1 92 = nI (cn σ 59) := hT.1.trans h59
  have e1 : ∀ r i v, (seta κ r i v).1 92 = nI (cn σ 59) := fun _ _ _ => e0
  have e2 : ∀ r i v s j w, (seta (seta κ r i v) s j w).1 92 = nI (cn σ 59) := fun _ _ _ _ _ _ => e0
  refine CT.of rfl (Nat.le_of_ble_eq_true rfl) ?_
  by_cases z : σ.1 59 = 4
  · refine x_aload_n dX8_addWatcher_0 rfl rfl ?_
    refine x_getf dX8_addWatcher_1 lf_X8_30 (kc hi kf_9) kv_9_2 ?_
    rw [hT.1, z]
    refine x_iconst (v := 4) dX8_addWatcher_4 (by decide) ?_
    refine x_icmp_lt (tgt := 10) dX8_addWatcher_5 (by decide) (fun z => absurd z (by decide)) (fun _ => ?_)
    refine x_iconst (v := -1) dX8_addWatcher_8 (by decide) ?_
    exact x_ireturn dX8_addWatcher_9 rfl rfl (hq1 z)
  · have hlt : cn σ 59 < 4 := by
      have : ¬ cn σ 59 = 4 := fun y => z (by rw [h59, y]; rfl)
      omega
    have hk1 : KQ κ (seti (seta (seta κ 20 (cn σ 59) a) 21 (cn σ 59) b) 92 (nI (cn σ 59) + 1)) := ⟨fun k x _ _ => seti_ne x, fun r hr => (seta_ne (by omega)).trans (seta_ne (by omega))⟩
    refine x_aload_n dX8_addWatcher_0 rfl rfl ?_
    refine x_getf dX8_addWatcher_1 lf_X8_30 (kc hi kf_9) kv_9_2 ?_
    rw [e0]
    refine x_iconst (v := 4) dX8_addWatcher_4 (by decide) ?_
    refine x_icmp_lt (tgt := 10) dX8_addWatcher_5 (by decide) (fun _ => ?_) (fun z => absurd (nI_lt hlt (by decide)) z)
    refine x_aload_n dX8_addWatcher_10 rfl rfl ?_
    refine x_getf dX8_addWatcher_11 lf_X8_11 (kc hi kf_9) kv_9_0 ?_
    refine x_aload_n dX8_addWatcher_14 rfl rfl ?_
    refine x_getf dX8_addWatcher_15 lf_X8_30 (kc hi kf_9) kv_9_2 ?_
    rw [e0]
    refine x_iload_n dX8_addWatcher_18 rfl rfl ?_
    refine xk_iast 20 dX8_addWatcher_19 kf_20 rfl hi (vp_in_nI (by omega) (by decide)) hcl ?_
    refine x_aload_n dX8_addWatcher_20 rfl rfl ?_
    refine x_getf dX8_addWatcher_21 lf_X8_15 (kc hi kf_9) kv_9_1 ?_
    refine x_aload_n dX8_addWatcher_24 rfl rfl ?_
    refine x_getf dX8_addWatcher_25 lf_X8_30 (kc hi kf_9) kv_9_2 ?_
    rw [e1]
    refine x_iload_n dX8_addWatcher_28 rfl rfl ?_
    refine xk_iast 21 dX8_addWatcher_29 kf_21 rfl hi (vp_in_nI (by omega) (by decide)) hcl ?_
    refine x_aload_n dX8_addWatcher_30 rfl rfl ?_
    refine x_dup dX8_addWatcher_31 rfl ?_
    refine x_getf dX8_addWatcher_32 lf_X8_30 (kc hi kf_9) kv_9_2 ?_
    rw [e2]
    refine x_iconst (v := 1) dX8_addWatcher_35 (by decide) ?_
    refine x_iadd dX8_addWatcher_36 ?_
    refine xk_puti dX8_addWatcher_37 lp_X8_30 (kc hi kf_9) rfl rfl (kp_9_2 hi) ?_
    refine x_aload_n dX8_addWatcher_40 rfl rfl ?_
    refine x_cV0 dX8_addWatcher_41 lv_X8_44 (kc hi kf_9) rfl rfl rfl  (c_X8_planAnew (σ := wN σ a b) hi (Cnt_wN hc z) (TabK_wN hc hT) hH ?_)
    intro κ3 hk3 hP3
    have hT3 := TabK_KB hk3 (TabK_wN (a := a) (b := b) hc hT)
    refine x_aload_n dX8_addWatcher_44 rfl rfl ?_
    refine x_getf dX8_addWatcher_45 lf_X8_30 (kc hi kf_9) kv_9_2 ?_
    rw [hT3.1]
    refine x_iconst (v := 1) dX8_addWatcher_48 (by decide) ?_
    refine x_isub dX8_addWatcher_49 ?_
    exact x_ireturn dX8_addWatcher_50 rfl rfl (fin (hq2 z κ3 (hk1.b hk3) hT3 hP3) (add_sub1 (σ.1 59)).symm)
theorem c_X8_addWanted {a b : Int32} (hi : adOK τ) (hc : Cnt σ) (hT : TabK σ κ) (hH : HoB σ) (hb : 0 ≤ b ∧ b ≤ 23) (hq1 : σ.1 60 = 8 → Q (some (.int (-1))) (cm τ κ Md)) (hq2 : ¬ σ.1 60 = 8 → ∀ κ', KQ κ κ' → TabK (wM σ a b) κ' → Pln (wM σ a b) κ' → Q (some (.int (σ.1 60))) (cm τ κ' Md)) : CT G (d + (cn σ 60 + 1) + 5) (0, 0) MX8_addWanted [.ref (τ 9), .int a, .int b] (cm τ κ Md) Q := by
  obtain ⟨h60, h8⟩ := hc.b 60 (b := 8) (by decide)
  have hcl : (nI (cn σ 60)).toNatClampNeg = cn σ 60 := nI_clamp (by omega)
  have e0 : κ.1 95 = nI (cn σ 60) := hT.2.1.trans h60
  have e1 : ∀ r i v, (seta κ r i v).1 95 = nI (cn σ 60) := fun _ _ _ => e0
  have e2 : ∀ r i v s j w, (seta (seta κ r i v) s j w).1 95 = nI (cn σ 60) := fun _ _ _ _ _ _ => e0
  have hn : cn (wM σ a b) 60 = cn σ 60 + 1 := by
    show (σ.1 60 + 1).toNatClampNeg = _
    rw [h60, nI_1, nI_clamp (by omega)]
  refine CT.of rfl (Nat.le_of_ble_eq_true rfl) ?_
  by_cases z : σ.1 60 = 8
  · refine x_aload_n dX8_addWanted_0 rfl rfl ?_
    refine x_getf dX8_addWanted_1 lf_X8_34 (kc hi kf_9) kv_9_5 ?_
    rw [hT.2.1, z]
    refine x_bipush (v := 8) dX8_addWanted_4 (by decide) ?_
    refine x_icmp_lt (tgt := 11) dX8_addWanted_6 (by decide) (fun z => absurd z (by decide)) (fun _ => ?_)
    refine x_iconst (v := -1) dX8_addWanted_9 (by decide) ?_
    exact x_ireturn dX8_addWanted_10 rfl rfl (hq1 z)
  · have hlt : cn σ 60 < 8 := by
      have : ¬ cn σ 60 = 8 := fun y => z (by rw [h60, y]; rfl)
      omega
    have hk1 : KQ κ (seti (seta (seta κ 22 (cn σ 60) a) 23 (cn σ 60) b) 95 (nI (cn σ 60) + 1)) := ⟨fun k _ x _ => seti_ne x, fun r hr => (seta_ne (by omega)).trans (seta_ne (by omega))⟩
    rw [← hn]
    refine x_aload_n dX8_addWanted_0 rfl rfl ?_
    refine x_getf dX8_addWanted_1 lf_X8_34 (kc hi kf_9) kv_9_5 ?_
    rw [e0]
    refine x_bipush (v := 8) dX8_addWanted_4 (by decide) ?_
    refine x_icmp_lt (tgt := 11) dX8_addWanted_6 (by decide) (fun _ => ?_) (fun z => absurd (nI_lt hlt (by decide)) z)
    refine x_aload_n dX8_addWanted_11 rfl rfl ?_
    refine x_getf dX8_addWanted_12 lf_X8_18 (kc hi kf_9) kv_9_3 ?_
    refine x_aload_n dX8_addWanted_15 rfl rfl ?_
    refine x_getf dX8_addWanted_16 lf_X8_34 (kc hi kf_9) kv_9_5 ?_
    rw [e0]
    refine x_iload_n dX8_addWanted_19 rfl rfl ?_
    refine xk_iast 22 dX8_addWanted_20 kf_22 rfl hi (vp_in_nI (by omega) (by decide)) hcl ?_
    refine x_aload_n dX8_addWanted_21 rfl rfl ?_
    refine x_getf dX8_addWanted_22 lf_X8_21 (kc hi kf_9) kv_9_4 ?_
    refine x_aload_n dX8_addWanted_25 rfl rfl ?_
    refine x_getf dX8_addWanted_26 lf_X8_34 (kc hi kf_9) kv_9_5 ?_
    rw [e1]
    refine x_iload_n dX8_addWanted_29 rfl rfl ?_
    refine xk_iast 23 dX8_addWanted_30 kf_23 rfl hi (vp_in_nI (by omega) (by decide)) hcl ?_
    refine x_aload_n dX8_addWanted_31 rfl rfl ?_
    refine x_dup dX8_addWanted_32 rfl ?_
    refine x_getf dX8_addWanted_33 lf_X8_34 (kc hi kf_9) kv_9_5 ?_
    rw [e2]
    refine x_iconst (v := 1) dX8_addWanted_36 (by decide) ?_
    refine x_iadd dX8_addWanted_37 ?_
    refine xk_puti dX8_addWanted_38 lp_X8_34 (kc hi kf_9) rfl rfl (kp_9_5 hi) ?_
    refine x_aload_n dX8_addWanted_41 rfl rfl ?_
    refine x_cV0 dX8_addWanted_42 lv_X8_44 (kc hi kf_9) rfl rfl rfl  (c_X8_planAnew (σ := wM σ a b) hi (Cnt_wM hc z) (TabK_wM hc hT) (HoB_wM hc hH hb) ?_)
    intro κ3 hk3 hP3
    have hT3 := TabK_KB hk3 (TabK_wM (a := a) (b := b) hc hT)
    refine x_aload_n dX8_addWanted_45 rfl rfl ?_
    refine x_getf dX8_addWanted_46 lf_X8_34 (kc hi kf_9) kv_9_5 ?_
    rw [hT3.2.1]
    refine x_iconst (v := 1) dX8_addWanted_49 (by decide) ?_
    refine x_isub dX8_addWanted_50 ?_
    exact x_ireturn dX8_addWanted_51 rfl rfl (fin (hq2 z κ3 (hk1.b hk3) hT3 hP3) (add_sub1 (σ.1 60)).symm)
theorem c_X8_wanted (hi : adOK τ) (hT : TabK σ κ) (hq : Q (some (.int (σ.1 60))) (cm τ κ Md)) : CT G d (0, 0) MX8_wanted [.ref (τ 9)] (cm τ κ Md) Q := by
  refine CT.of rfl (Nat.le_of_ble_eq_true rfl) ?_
  refine x_aload_n dX8_wanted_0 rfl rfl ?_
  refine x_getf dX8_wanted_1 lf_X8_34 (kc hi kf_9) kv_9_5 ?_
  rw [hT.2.1]
  exact x_ireturn dX8_wanted_4 rfl rfl (hq)
theorem c_X8_seen (hi : adOK τ) (hq : Q (some (.int (κ.1 98))) (cm τ κ Md)) : CT G d (0, 0) MX8_seen [.ref (τ 9)] (cm τ κ Md) Q := by
  refine CT.of rfl (Nat.le_of_ble_eq_true rfl) ?_
  refine x_aload_n dX8_seen_0 rfl rfl ?_
  refine x_getf dX8_seen_1 lf_X8_37 (kc hi kf_9) kv_9_8 ?_
  exact x_ireturn dX8_seen_4 rfl rfl (hq)
theorem c_X8_watcherOf {w : Nat} (hi : adOK τ) (hc : Cnt σ) (hT : TabK σ κ) (hw : w < cn σ 60) (hq : Q (some (.int (κ.2 25 w))) (cm τ κ Md)) : CT G (d + 1) (0, 0) MX8_watcherOf [.ref (τ 9), .int (nI w)] (cm τ κ Md) Q := by
  obtain ⟨h60, h8⟩ := hc.b 60 (b := 8) (by decide)
  have hcl : (nI w).toNatClampNeg = w := nI_clamp (by omega)
  refine CT.of rfl (Nat.le_of_ble_eq_true rfl) ?_
  refine x_iload_n dX8_watcherOf_0 rfl rfl ?_
  refine x_iconst (v := 0) dX8_watcherOf_1 (by decide) ?_
  refine x_aload_n dX8_watcherOf_2 rfl rfl ?_
  refine x_getf dX8_watcherOf_3 lf_X8_34 (kc hi kf_9) kv_9_5 ?_
  rw [hT.2.1, h60]
  refine x_iconst (v := 1) dX8_watcherOf_6 (by decide) ?_
  refine x_isub dX8_watcherOf_7 ?_
  refine x_cSN3 dX8_watcherOf_8 ls_X8_40 rfl  (c_X11_isWithin ?_)
  refine x_if_eq_b (tgt := 32) dX8_watcherOf_11 (by decide) (fun z => absurd ⟨nI_pos' (by omega), (le_p1 (by omega)).mpr (nI_lt hw (by omega))⟩ z) (fun _ => ?_)
  refine x_iload_n dX8_watcherOf_14 rfl rfl ?_
  refine x_aload_n dX8_watcherOf_15 rfl rfl ?_
  refine x_getf dX8_watcherOf_16 lf_X8_27 (kc hi kf_9) kv_9_7 ?_
  refine x_alen dX8_watcherOf_19 (by decide) (by decide) (kc hi kf_25) ?_
  refine x_icmp_ge (tgt := 32) dX8_watcherOf_20 (by decide) (fun z => absurd z (Int32.not_le.mpr (nI_lt (by omega) (by decide)))) (fun _ => ?_)
  refine x_aload_n dX8_watcherOf_23 rfl rfl ?_
  refine x_getf dX8_watcherOf_24 lf_X8_27 (kc hi kf_9) kv_9_7 ?_
  refine x_iload_n dX8_watcherOf_27 rfl rfl ?_
  refine xk_iald 25 dX8_watcherOf_28 kf_25 rfl hi (vp_in_nI (by omega) (by decide)) hcl ?_
  refine x_goto (tgt := 33) dX8_watcherOf_29 (by decide) ?_
  exact x_ireturn dX8_watcherOf_33 rfl rfl (hq)
noncomputable def aTab (σ : MS) (w : Int32) : Int32 := cI (-1 ≤ w ∧ w ≤ σ.1 60 - 1) (if w = -1 then (tryT σ (cn σ 60) 0 0 (σ.2 57, σ.2 58, -1)).2.2 else (tryT σ (cn σ 60) 0 0 (σ.2 57, σ.2 58, -1)).2.1 w.toNatClampNeg) (-2)
theorem Pln_at (hc : Cnt σ) (hP : Pln σ κ) : κ.1 98 = (tryT σ (cn σ 60) 0 0 (σ.2 57, σ.2 58, -1)).2.2 ∧ ∀ i, i < cn σ 60 → κ.2 25 i = (tryT σ (cn σ 60) 0 0 (σ.2 57, σ.2 58, -1)).2.1 i := by
  obtain ⟨h60, h8⟩ := hc.b 60 (b := 8) (by decide)
  obtain ⟨t0, z0, h1⟩ := hP
  have h2 := tryT_ind σ (cn σ 60) 0 0 t0 (σ.2 57, σ.2 58, -1) (by omega) ⟨fun i hi => absurd hi (Nat.not_lt_zero i), z0, fun h => absurd z0 h⟩
  have h3 := tryT_ne σ h60 h8 (cn σ 60) 0 0 t0 (by omega) (Nat.le_refl 0) z0
  have e : κ.1 98 = (tryT σ (cn σ 60) 0 0 t0).2.2 := h1.2.1
  exact ⟨e.trans h2.2.1, fun i hi => (h1.2.2 (fun y => h3 (e.symm.trans y)) i hi).trans (h2.2.2 h3 i hi)⟩
theorem c_X11_table {w : Int32} (hi : adOK τ) (hc : Cnt σ) (hT : TabK σ κ) (hP : Pln σ κ) (hq : Q (some (.int (aTab σ w))) (cm τ κ Md)) : CT G (d + 2) (0, 0) MX11_table [.ref (τ 0), .int w] (cm τ κ Md) Q := by
  obtain ⟨h60, h8⟩ := hc.b 60 (b := 8) (by decide)
  obtain ⟨p1, p2⟩ := Pln_at hc hP
  have hlo : (-1 : Int32) ≤ σ.1 60 - 1 := by
    rw [h60, Int32.le_iff_toInt_le, nI_p1 (by omega)]
    show (-1 : Int) ≤ _
    omega
  refine CT.of rfl (Nat.le_of_ble_eq_true rfl) ?_
  unfold aTab at hq
  refine x_iload_n dX11_table_0 rfl rfl ?_
  refine x_iconst (v := -1) dX11_table_1 (by decide) ?_
  refine x_icmp_ne (tgt := 13) dX11_table_2 (by decide) (fun h2 => ?_) (fun h2 => ?_)
  · refine x_iload_n dX11_table_13 rfl rfl ?_
    refine x_iconst (v := 0) dX11_table_14 (by decide) ?_
    refine x_aload_n dX11_table_15 rfl rfl ?_
    refine x_getf dX11_table_16 lf_X11_44 (kc hi kf_0) kv_0_9 ?_
    refine x_cV0 dX11_table_19 lv_X11_382 (kc hi kf_9) rfl rfl rfl  (c_X8_wanted hi hT ?_)
    refine x_iconst (v := 1) dX11_table_22 (by decide) ?_
    refine x_isub dX11_table_23 ?_
    refine x_cS3 dX11_table_24 ls_X11_92 rfl  (c_X11_isWithin ?_)
    refine x_if_eq_b (tgt := 41) dX11_table_27 (by decide) (fun h27 => ?_) (fun h27 => ?_)
    · refine x_bipush (v := -2) dX11_table_41 (by decide) ?_
      exact x_ireturn dX11_table_43 rfl rfl (by
first
| (have hz := h27.1
   rw [p2 j hj]
   rw [cI_t ⟨Int32.le_trans (by decide) h27.1, h27.2⟩, if_neg h2, nI_clamp (by omega)] at hq
   exact hq)
| (have hz : ¬ (0 ≤ w ∧ w ≤ σ.1 60 - 1) := h27
   rw [cI_f (fun y => hz ⟨?_, y.2⟩)] at hq
   · exact hq
   · have y1 := Int32.le_iff_toInt_le.mp y.1
     have y2 : ¬ w.toInt = -1 := fun x => h2 (Int32.toInt_inj.mp x)
     rw [Int32.le_iff_toInt_le]
     have e1 : (-1 : Int32).toInt = -1 := rfl
     have e0 : (0 : Int32).toInt = 0 := rfl
     omega))
    · obtain ⟨j, hj, rfl⟩ := of_lt h27.1 ((le_p1 (n := cn σ 60) (by omega)).mp (by rw [← h60]; exact h27.2)) rfl (by omega)
      refine x_aload_n dX11_table_30 rfl rfl ?_
      refine x_getf dX11_table_31 lf_X11_44 (kc hi kf_0) kv_0_9 ?_
      refine x_iload_n dX11_table_34 rfl rfl ?_
      refine x_cV1 dX11_table_35 lv_X11_385 (kc hi kf_9) rfl rfl rfl  (c_X8_watcherOf hi hc hT hj ?_)
      refine x_goto (tgt := 43) dX11_table_38 (by decide) ?_
      exact x_ireturn dX11_table_43 rfl rfl (by
first
| (have hz := h27.1
   rw [p2 j hj]
   rw [cI_t ⟨Int32.le_trans (by decide) h27.1, h27.2⟩, if_neg h2, nI_clamp (by omega)] at hq
   exact hq)
| (have hz : ¬ (0 ≤ w ∧ w ≤ σ.1 60 - 1) := h27
   rw [cI_f (fun y => hz ⟨?_, y.2⟩)] at hq
   · exact hq
   · have y1 := Int32.le_iff_toInt_le.mp y.1
     have y2 : ¬ w.toInt = -1 := fun x => h2 (Int32.toInt_inj.mp x)
     rw [Int32.le_iff_toInt_le]
     have e1 : (-1 : Int32).toInt = -1 := rfl
     have e0 : (0 : Int32).toInt = 0 := rfl
     omega))
  · refine x_aload_n dX11_table_5 rfl rfl ?_
    refine x_getf dX11_table_6 lf_X11_44 (kc hi kf_0) kv_0_9 ?_
    refine x_cV0 dX11_table_9 lv_X11_379 (kc hi kf_9) rfl rfl rfl  (c_X8_seen hi ?_)
    exact x_ireturn dX11_table_12 rfl rfl (by
rw [p1]
have hz : w = -1 := by first | exact h2 | exact Classical.not_not.mp h2
rw [cI_t ⟨by rw [hz]; exact Int32.le_refl _, by rw [hz]; exact hlo⟩, if_pos hz] at hq
exact hq)
theorem c_X11_watcher {a b : Int32} (hi : adOK τ) (hc : Cnt σ) (hT : TabK σ κ) (hH : HoB σ) (hP : Pln σ κ) (hq : ∀ κ', KQ κ κ' → TabK (nWatch σ a b) κ' → Pln (nWatch σ a b) κ' → Q (some (.int (aWatch σ a b))) (cm τ κ' Md)) : CT G (d + cn σ 60 + 6) (0, 0) MX11_watcher [.ref (τ 0), .int a, .int b] (cm τ κ Md) Q := by
  have hno : ¬ pWatch σ a b → Q (some (.int (-1))) (cm τ κ Md) := fun z => by
    have h := hq κ KQ.rf
    rw [show nWatch σ a b = σ from cI_f z, show aWatch σ a b = -1 from cI_f z] at h
    exact h hT hP
  refine CT.of rfl (Nat.le_of_ble_eq_true rfl) ?_
  refine x_iload_n dX11_watcher_0 rfl rfl ?_
  refine x_cS1 dX11_watcher_1 ls_X11_370 rfl  (c_X11_isHour ?_)
  refine x_if_eq_b (tgt := 19) dX11_watcher_4 (by decide) (fun h4 => ?_) (fun h4 => ?_)
  · refine x_iconst (v := -1) dX11_watcher_19 (by decide) ?_
    exact x_ireturn dX11_watcher_20 rfl rfl (hno (fun z => by first | exact h4 z.2.1 | exact h11 ⟨Int32.le_trans z.2.1.1 z.2.2.1, z.2.2.2⟩ | exact h16 z.2.2.1))
  · refine x_iload_n dX11_watcher_7 rfl rfl ?_
    refine x_cS1 dX11_watcher_8 ls_X11_370 rfl  (c_X11_isHour ?_)
    refine x_if_eq_b (tgt := 19) dX11_watcher_11 (by decide) (fun h11 => ?_) (fun h11 => ?_)
    · refine x_iconst (v := -1) dX11_watcher_19 (by decide) ?_
      exact x_ireturn dX11_watcher_20 rfl rfl (hno (fun z => by first | exact h4 z.2.1 | exact h11 ⟨Int32.le_trans z.2.1.1 z.2.2.1, z.2.2.2⟩ | exact h16 z.2.2.1))
    · refine x_iload_n dX11_watcher_14 rfl rfl ?_
      refine x_iload_n dX11_watcher_15 rfl rfl ?_
      refine x_icmp_ge (tgt := 21) dX11_watcher_16 (by decide) (fun h16 => ?_) (fun h16 => ?_)
      · refine x_aload_n dX11_watcher_21 rfl rfl ?_
        refine x_getf dX11_watcher_22 lf_X11_44 (kc hi kf_0) kv_0_9 ?_
        refine x_iload_n dX11_watcher_25 rfl rfl ?_
        refine x_iload_n dX11_watcher_26 rfl rfl ?_
        refine x_cV2 dX11_watcher_27 lv_X11_373 (kc hi kf_9) rfl rfl rfl  (c_X8_addWatcher hi hc hT hH ?_ ?_)
        · intro y
          exact x_ireturn dX11_watcher_30 rfl rfl (hno (fun z => z.1 y))
        · intro z0 κ3 hk3 hT3 hP3
          have hp : pWatch σ a b := ⟨z0, h4, by first | exact h16 | exact Int32.not_lt.mp h16, h11.2⟩
          have h := hq κ3 hk3
          rw [show nWatch σ a b = wN σ a b from cI_t hp, show aWatch σ a b = σ.1 59 from cI_t hp] at h
          exact x_ireturn dX11_watcher_30 rfl rfl (h hT3 hP3)
      · refine x_iconst (v := -1) dX11_watcher_19 (by decide) ?_
        exact x_ireturn dX11_watcher_20 rfl rfl (hno (fun z => by first | exact h4 z.2.1 | exact h11 ⟨Int32.le_trans z.2.1.1 z.2.2.1, z.2.2.2⟩ | exact h16 z.2.2.1))
theorem c_X11_want {a b : Int32} (hi : adOK τ) (hc : Cnt σ) (hT : TabK σ κ) (hH : HoB σ) (hP : Pln σ κ) (hq : ∀ κ', KQ κ κ' → TabK (nWant σ a b) κ' → Pln (nWant σ a b) κ' → Q (some (.int (aWant σ a b))) (cm τ κ' Md)) : CT G (d + (cn σ 60 + 1) + 6) (0, 0) MX11_want [.ref (τ 0), .int a, .int b] (cm τ κ Md) Q := by
  have hno : ¬ pWant σ a b → Q (some (.int (-1))) (cm τ κ Md) := fun z => by
    have h := hq κ KQ.rf
    rw [show nWant σ a b = σ from cI_f z, show aWant σ a b = -1 from cI_f z] at h
    exact h hT hP
  refine CT.of rfl (Nat.le_of_ble_eq_true rfl) ?_
  refine x_iload_n dX11_want_0 rfl rfl ?_
  refine x_cS1 dX11_want_1 ls_X11_96 rfl  (c_X11_isPlace ?_)
  refine x_if_eq_b (tgt := 14) dX11_want_4 (by decide) (fun h4 => ?_) (fun h4 => ?_)
  · refine x_iconst (v := -1) dX11_want_14 (by decide) ?_
    exact x_ireturn dX11_want_15 rfl rfl (hno (fun z => by first | exact h4 z.2.1 | exact h11 z.2.2))
  · refine x_iload_n dX11_want_7 rfl rfl ?_
    refine x_cS1 dX11_want_8 ls_X11_370 rfl  (c_X11_isHour ?_)
    refine x_if_ne_b (tgt := 16) dX11_want_11 (by decide) (fun h11 => ?_) (fun h11 => ?_)
    · refine x_aload_n dX11_want_16 rfl rfl ?_
      refine x_getf dX11_want_17 lf_X11_44 (kc hi kf_0) kv_0_9 ?_
      refine x_iload_n dX11_want_20 rfl rfl ?_
      refine x_iload_n dX11_want_21 rfl rfl ?_
      refine x_cV2 dX11_want_22 lv_X11_376 (kc hi kf_9) rfl rfl rfl  (c_X8_addWanted hi hc hT hH h11 ?_ ?_)
      · intro y
        exact x_ireturn dX11_want_25 rfl rfl (hno (fun z => z.1 y))
      · intro z0 κ3 hk3 hT3 hP3
        have hp : pWant σ a b := ⟨z0, h4, h11⟩
        have h := hq κ3 hk3
        rw [show nWant σ a b = wM σ a b from cI_t hp, show aWant σ a b = σ.1 60 from cI_t hp] at h
        exact x_ireturn dX11_want_25 rfl rfl (h hT3 hP3)
    · refine x_iconst (v := -1) dX11_want_14 (by decide) ?_
      exact x_ireturn dX11_want_15 rfl rfl (hno (fun z => by first | exact h4 z.2.1 | exact h11 z.2.2))
end CLK
