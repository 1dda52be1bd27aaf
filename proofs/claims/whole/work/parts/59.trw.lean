/-! the class, 9: turns walked -/
theorem dKey_d {σ : MS} {x y : Nat} (hx : isD (σ.2 9 x)) (hy : isD (σ.2 9 y)) : dKey σ y < dKey σ x ↔ σ.2 9 x < σ.2 9 y := by
  have h1 := isD_i hx
  have h2 := isD_i hy
  unfold dKey
  rw [Int32.lt_iff_toInt_lt, Int32.lt_iff_toInt_lt, Int32.toInt_neg, Int32.toInt_neg, bm32 (by omega), bm32 (by omega)]
  omega
/-- the rows hold these lines -/
def TrI (σ κ : MS) (L : List Nat) : Prop := κ.1 102 = nI L.length ∧ ∀ i, i < L.length → κ.2 26 i = σ.2 9 (L.getD i 0) ∧ κ.2 27 i = σ.2 11 (L.getD i 0)
def KT (κ κ' : MS) : Prop := (∀ k, ¬ k = 102 → κ'.1 k = κ.1 k) ∧ ∀ r, ¬ r = 26 → ¬ r = 27 → κ'.2 r = κ.2 r
theorem KT.rf {κ : MS} : KT κ κ := ⟨fun _ _ => rfl, fun _ _ _ => rfl⟩
theorem KT.tr {a b c : MS} (h1 : KT a b) (h2 : KT b c) : KT a c := ⟨fun k x => (h2.1 k x).trans (h1.1 k x), fun k x y => (h2.2 k x y).trans (h1.2 k x y)⟩
theorem KT.i {κ κ' : MS} {v : Int32} (h : KT κ κ') : KT κ (seti κ' 102 v) := ⟨fun k hk => (seti_ne hk).trans (h.1 k hk), h.2⟩
theorem KT.a {κ κ' : MS} {r i : Nat} {v : Int32} (h : KT κ κ') (hr : r = 26 ∨ r = 27) : KT κ (seta κ' r i v) := ⟨h.1, fun k h1 h2 => (seta_ne (by rcases hr with e | e <;> rw [e] <;> assumption)).trans (h.2 k h1 h2)⟩
theorem Kap_KT {σ κ κ' : MS} (h : KT κ κ') (hK : Kap σ κ) : Kap σ κ' := by
  obtain ⟨h1, h2, h3, ⟨t1, t2, t3, t4⟩, h5⟩ := hK
  unfold Kap TabK
  rw [h.1 0 (by decide), h.1 81 (by decide), h.1 92 (by decide), h.1 95 (by decide), h.2 17 (by decide) (by decide), h.2 20 (by decide) (by decide), h.2 21 (by decide) (by decide), h.2 22 (by decide) (by decide), h.2 23 (by decide) (by decide)]
  exact ⟨h1, h2, h3, ⟨t1, t2, t3, t4⟩, fun p s hp hs => by rw [h.2 (30 + p) (by omega) (by omega)]; exact h5 p s hp hs⟩
theorem Wld_KT {G : Gam} {τ : Nat → Nat} {ω : Nat → Nat → Nat} {ε : Nat → Nat} {σ κ κ' : MS} {Md : Mem} (h : KT κ κ') (hW : Wld G τ ω ε σ κ Md) : Wld G τ ω ε σ κ' Md := ⟨hW.1, hW.2.1, hW.2.2.1, Kap_KT h hW.2.2.2⟩
/-- moods in a window of f from b on -/
def wZ (ms : Nat → Int32) (N f b : Nat) : Int := zS (fun k => (ms ((k + b) % N)).toInt) f
theorem zS_sh (h : Nat → Int) : ∀ n, zS (fun k => h (k + 1)) n = zS h n + h n - h 0
  | 0 => by show (0 : Int) = 0 + h 0 - h 0; omega
  | n + 1 => by rw [zS_s, zS_s, zS_sh h n]; omega
theorem wZ_s (ms : Nat → Int32) (N f b : Nat) : wZ ms N f (b + 1) = wZ ms N f b + (ms ((f + b) % N)).toInt - (ms (b % N)).toInt := by
  have := zS_sh (fun k => (ms ((k + b) % N)).toInt) f
  unfold wZ
  have e : (fun k => (ms ((k + (b + 1)) % N)).toInt) = (fun k => (ms ((k + 1 + b) % N)).toInt) := by
    funext k; congr 3; omega
  rw [e]
  simp only [Nat.zero_add] at this
  exact this
theorem wZ_all (ms : Nat → Int32) (N : Nat) : ∀ b, wZ ms N N b = wZ ms N N 0
  | 0 => rfl
  | b + 1 => by
    rw [wZ_s, wZ_all ms N b, Nat.add_mod_left]
    omega
def mB (ms : Nat → Int32) (N : Nat) : Prop := ∀ i, i < N → -9 ≤ (ms i).toInt ∧ (ms i).toInt ≤ 9
theorem wZ_bd {ms : Nat → Int32} {N : Nat} (h : mB ms N) (hN : 0 < N) (f b : Nat) : -(9 * (f : Int)) ≤ wZ ms N f b ∧ wZ ms N f b ≤ 9 * (f : Int) :=
  zS_bd f (fun i _ => h _ (Nat.mod_lt _ hN))
theorem ap_i {ms : Nat → Int32} {N : Nat} (h : mB ms N) (hN : 0 < N) (hN2 : N ≤ 200) (f b : Nat) : ∀ n, n ≤ N → (spAp ms N f b n).1.toInt = wZ ms N (min n f) b ∧ (spAp ms N f b n).2.toInt = wZ ms N n b - wZ ms N (min n f) b
  | 0, _ => by rw [Nat.zero_min]; exact ⟨rfl, rfl⟩
  | n + 1, hn => by
    obtain ⟨a1, a2⟩ := ap_i h hN hN2 f b n (by omega)
    have hb := h ((n + b) % N) (Nat.mod_lt _ hN)
    have hw := wZ_bd h hN n b
    have hw2 := wZ_bd h hN (min n f) b
    have es : spAp ms N f b (n + 1) = if n < f then ((spAp ms N f b n).1 + (ms ((n + b) % N)).toInt64, (spAp ms N f b n).2) else ((spAp ms N f b n).1, (spAp ms N f b n).2 + (ms ((n + b) % N)).toInt64) := rfl
    have ew : wZ ms N (n + 1) b = wZ ms N n b + (ms ((n + b) % N)).toInt := rfl
    have hmn : min n f ≤ n := Nat.min_le_left _ _
    rw [es]
    by_cases z : n < f
    · rw [if_pos z]
      have e1 : min n f = n := by omega
      have e2 : min (n + 1) f = n + 1 := by omega
      rw [e1] at a1 a2
      rw [e2]
      refine ⟨?_, ?_⟩
      · show ((spAp ms N f b n).1 + _).toInt = _
        rw [l_add (by rw [a1, Int32.toInt_toInt64]; omega), a1, Int32.toInt_toInt64, ew]
      · show (spAp ms N f b n).2.toInt = _
        rw [a2]; omega
    · rw [if_neg z]
      have e1 : min n f = f := by omega
      have e2 : min (n + 1) f = f := by omega
      rw [e1] at a1 a2 hw2
      rw [e2]
      refine ⟨a1, ?_⟩
      show ((spAp ms N f b n).2 + _).toInt = _
      rw [l_add (by rw [a2, Int32.toInt_toInt64]; omega), a2, Int32.toInt_toInt64, ew]
      omega
/-- the distance as the class counts it -/
def dsV (s all : Int32) (N f : Nat) : Int64 := labs (s.toInt64 * (nI N - nI f).toInt64 - (all - s).toInt64 * (nI f).toInt64)
theorem ds_eq {ms : Nat → Int32} {N : Nat} (h : mB ms N) (hN : 0 < N) (hN2 : N ≤ 200) {f b : Nat} (hf : f ≤ N) {s all : Int32} (hs : s.toInt = wZ ms N f b) (ha : all.toInt = wZ ms N N 0) : dsV s all N f = spApart ms N f b := by
  obtain ⟨a1, a2⟩ := ap_i h hN hN2 f b N (Nat.le_refl _)
  rw [Nat.min_eq_right hf] at a1 a2
  have hw := wZ_bd h hN f b
  have hw2 := wZ_bd h hN N 0
  have e1 : (spAp ms N f b N).1 = s.toInt64 := by rw [← Int64.toInt_inj, a1, Int32.toInt_toInt64, hs]
  have e2 : (spAp ms N f b N).2 = (all - s).toInt64 := by
    rw [← Int64.toInt_inj, a2, Int32.toInt_toInt64, i_sub (by rw [ha, hs]; omega), ha, hs, wZ_all]
  unfold dsV spApart
  rw [e1, e2]
section CLH
variable {G : Gam} {d : Nat} {τ : Nat → Nat} {ω : Nat → Nat → Nat} {ε : Nat → Nat} {σ κ : MS} {Md : Mem} {M : Mem} {Q : Option Value → Mem → Prop} {k : Nat}
theorem c_X10_clear (hi : adOK τ) (hq : ∀ κ', KT κ κ' → TrI σ κ' [] → Q none (cm τ κ' Md)) : CT G d (0, 0) MX10_clear [.ref (τ 10)] (cm τ κ Md) Q := by
  refine CT.of rfl (Nat.le_of_ble_eq_true rfl) ?_
  refine x_aload_n dX10_clear_0 rfl rfl ?_
  refine x_iconst (v := 0) dX10_clear_1 (by decide) ?_
  refine xk_puti dX10_clear_2 lp_X10_18 (kc hi kf_10) rfl rfl (kp_10_2 hi) ?_
  exact x_return dX10_clear_5 rfl (hq _ KT.rf.i ⟨(by show updB κ.1 102 0 102 = _; rw [updB_eq]; rfl), fun i hi => absurd hi (Nat.not_lt_zero i)⟩)
theorem trn_in {L : List Nat} {x : Nat} (hi : adOK τ) (hL : ∀ y ∈ L, isD (σ.2 9 y)) (hx : isD (σ.2 9 x)) (hs : L.length < 200) (hq : ∀ κ', KT κ κ' → TrI σ κ' (insB (dKey σ) x L) → Q none (cm τ κ' Md)) :
    ∀ (j : Nat) (κd : MS), j ≤ L.length → KT κ κd → κd.1 102 = nI L.length → (∀ i, i < j → κd.2 26 i = σ.2 9 (L.getD i 0) ∧ κd.2 27 i = σ.2 11 (L.getD i 0)) → (∀ i, j < i → i ≤ L.length → κd.2 26 i = σ.2 9 (L.getD (i - 1) 0) ∧ κd.2 27 i = σ.2 11 (L.getD (i - 1) 0)) → posF (dKey σ) x L L.length = posF (dKey σ) x L j → XJ G (d + 1) (0, 0) MX10_add (cm τ κd Md) [(0, .ref (τ 10)), (1, .int (σ.2 9 x)), (2, .int (σ.2 11 x)), (3, .int (nI j))] [] 18 Q := by
  have E : ∀ (j : Nat) (κd : MS), j ≤ L.length → KT κ κd → κd.1 102 = nI L.length → (∀ i, i < j → κd.2 26 i = σ.2 9 (L.getD i 0) ∧ κd.2 27 i = σ.2 11 (L.getD i 0)) → (∀ i, j < i → i ≤ L.length → κd.2 26 i = σ.2 9 (L.getD (i - 1) 0) ∧ κd.2 27 i = σ.2 11 (L.getD (i - 1) 0)) → posF (dKey σ) x L L.length = j → XJ G (d + 1) (0, 0) MX10_add (cm τ κd Md) [(0, .ref (τ 10)), (1, .int (σ.2 9 x)), (2, .int (σ.2 11 x)), (3, .int (nI j))] [] 68 Q := by
    intro j κd hj hk hsz h1 h2 hpos
    have hin : vp_in (nI j) 200 := vp_in_nI (by omega) (by decide)
    have hcl : (nI j).toNatClampNeg = j := nI_clamp (by omega)
    refine x_aload_n dX10_add_68 rfl rfl ?_
    refine x_getf dX10_add_69 lf_X10_9 (kc hi kf_10) kv_10_0 ?_
    refine x_iload_n dX10_add_72 rfl rfl ?_
    refine x_iload_n dX10_add_73 rfl rfl ?_
    refine xk_iast 26 dX10_add_74 kf_26 rfl hi hin hcl ?_
    refine x_aload_n dX10_add_75 rfl rfl ?_
    refine x_getf dX10_add_76 lf_X10_15 (kc hi kf_10) kv_10_1 ?_
    refine x_iload_n dX10_add_79 rfl rfl ?_
    refine x_iload_n dX10_add_80 rfl rfl ?_
    refine xk_iast 27 dX10_add_81 kf_27 rfl hi hin hcl ?_
    refine x_aload_n dX10_add_82 rfl rfl ?_
    refine x_dup dX10_add_83 rfl ?_
    refine x_getf dX10_add_84 lf_X10_18 (kc hi kf_10) kv_10_2 ?_
    refine x_iconst (v := 1) dX10_add_87 (by decide) ?_
    refine x_iadd dX10_add_88 ?_
    refine xk_puti dX10_add_89 lp_X10_18 (kc hi kf_10) rfl rfl (kp_10_2 hi) ?_
    exact x_return dX10_add_92 rfl (by
refine hq _ (((hk.a (Or.inl rfl)).a (Or.inr rfl)).i) ⟨?_, fun i hi => ?_⟩
· show updB κd.1 102 (κd.1 102 + 1) 102 = _
  rw [updB_eq, hsz, nI_1, insB_len]
· rw [insB_len] at hi
  rw [insB_get _ _ _ (by omega), hpos]
  show (seta (seta κd 26 j (σ.2 9 x)) 27 j (σ.2 11 x)).2 26 i = _ ∧ (seta (seta κd 26 j (σ.2 9 x)) 27 j (σ.2 11 x)).2 27 i = _
  rw [seta_ne (by decide), seta_eq, seta_eq, seta_ne (by decide)]
  by_cases z : i = j
  · subst z
    rw [updB_eq, updB_eq, if_neg (Nat.lt_irrefl _), if_pos rfl]; exact ⟨rfl, rfl⟩
  · rw [updB_ne z, updB_ne z]
    by_cases y : i < j
    · rw [if_pos y]; exact h1 i y
    · rw [if_neg y, if_neg z]; exact h2 i (by omega) (by omega))
  intro j
  induction j with
  | zero =>
    intro κd hj hk hsz h1 h2 hpos
    refine x_iload_n dX10_add_18 rfl rfl ?_
    refine x_if_le (tgt := 68) dX10_add_19 (by decide) (fun _ => ?_) (fun z => absurd (by decide) z)
    exact E 0 κd hj hk hsz h1 h2 hpos
  | succ j ih =>
    intro κd hj hk hsz h1 h2 hpos
    have hinj : vp_in (nI j) 200 := vp_in_nI (by omega) (by decide)
    have hclj : (nI j).toNatClampNeg = j := nI_clamp (by omega)
    have hinj1 : vp_in (nI (j + 1)) 200 := vp_in_nI (by omega) (by decide)
    have hclj1 : (nI (j + 1)).toNatClampNeg = j + 1 := nI_clamp (by omega)
    obtain ⟨r1, r2⟩ := h1 j (by omega)
    have hm : L.getD j 0 ∈ L := by
      rw [List.getD_eq_getElem?_getD, List.getElem?_eq_getElem (by omega)]
      exact List.getElem_mem _
    have hkey := dKey_d hx (hL _ hm)
    refine x_iload_n dX10_add_18 rfl rfl ?_
    refine x_if_le (tgt := 68) dX10_add_19 (by decide) (fun z => absurd z (nI_nle (by omega) (by omega))) (fun _ => ?_)
    refine x_aload_n dX10_add_22 rfl rfl ?_
    refine x_getf dX10_add_23 lf_X10_9 (kc hi kf_10) kv_10_0 ?_
    refine x_iload_n dX10_add_26 rfl rfl ?_
    refine x_iconst (v := 1) dX10_add_27 (by decide) ?_
    refine x_isub dX10_add_28 ?_
    rw [nI_pred]
    refine xk_iald 26 dX10_add_29 kf_26 rfl hi hinj hclj ?_
    rw [r1]
    refine x_iload_n dX10_add_30 rfl rfl ?_
    refine x_icmp_le (tgt := 68) dX10_add_31 (by decide) (fun h31 => ?_) (fun h31 => ?_)
    · refine E (j + 1) κd hj hk hsz h1 h2 (hpos.trans ?_)
      unfold posF
      rw [if_neg (fun z => absurd (hkey.mp z) (Int32.not_lt.mpr h31))]
    · refine x_aload_n dX10_add_34 rfl rfl ?_
      refine x_getf dX10_add_35 lf_X10_9 (kc hi kf_10) kv_10_0 ?_
      refine x_iload_n dX10_add_38 rfl rfl ?_
      refine x_aload_n dX10_add_39 rfl rfl ?_
      refine x_getf dX10_add_40 lf_X10_9 (kc hi kf_10) kv_10_0 ?_
      refine x_iload_n dX10_add_43 rfl rfl ?_
      refine x_iconst (v := 1) dX10_add_44 (by decide) ?_
      refine x_isub dX10_add_45 ?_
      rw [nI_pred]
      refine xk_iald 26 dX10_add_46 kf_26 rfl hi hinj hclj ?_
      rw [r1]
      refine xk_iast 26 dX10_add_47 kf_26 rfl hi hinj1 hclj1 ?_
      refine x_aload_n dX10_add_48 rfl rfl ?_
      refine x_getf dX10_add_49 lf_X10_15 (kc hi kf_10) kv_10_1 ?_
      refine x_iload_n dX10_add_52 rfl rfl ?_
      refine x_aload_n dX10_add_53 rfl rfl ?_
      refine x_getf dX10_add_54 lf_X10_15 (kc hi kf_10) kv_10_1 ?_
      refine x_iload_n dX10_add_57 rfl rfl ?_
      refine x_iconst (v := 1) dX10_add_58 (by decide) ?_
      refine x_isub dX10_add_59 ?_
      rw [nI_pred]
      refine xk_iald 27 dX10_add_60 kf_27 rfl hi hinj hclj ?_
      rw [show (seta κd 26 (j + 1) (σ.2 9 (L.getD j 0))).2 27 j = σ.2 11 (L.getD j 0) from r2]
      refine xk_iast 27 dX10_add_61 kf_27 rfl hi hinj1 hclj1 ?_
      refine x_iinc (c := -1) dX10_add_62 rfl (by decide) ?_
      refine x_goto (tgt := 18) dX10_add_65 (by decide) ?_
      have hp2 : posF (dKey σ) x L L.length = posF (dKey σ) x L j := by
        rw [hpos]
        show (if dKey σ (L.getD j 0) < dKey σ x then _ else _) = _
        rw [if_pos (hkey.mpr (Int32.not_le.mp h31))]
      refine x_loc _ (?_ : lle _ _) (ih (seta (seta κd 26 (j + 1) (σ.2 9 (L.getD j 0))) 27 (j + 1) (σ.2 11 (L.getD j 0))) (by omega) ((hk.a (Or.inl rfl)).a (Or.inr rfl)) hsz (fun i hi => ?_) (fun i hi hi2 => ?_) hp2)
      · refine ⟨rfl, rfl, rfl, ?_, trivial⟩
        show some (Value.int (nI (j + 1) + -1)) = some (Value.int (nI j))
        rw [← Int32.sub_eq_add_neg, nI_pred]
      · rw [seta_ne (by decide), seta_eq, seta_eq, seta_ne (by decide), updB_ne (by omega), updB_ne (by omega)]
        exact h1 i (by omega)
      · rw [seta_ne (by decide), seta_eq, seta_eq, seta_ne (by decide)]
        by_cases z : i = j + 1
        · subst z
          rw [updB_eq, updB_eq]; exact ⟨rfl, rfl⟩
        · rw [updB_ne z, updB_ne z]
          exact h2 i (by omega) hi2
theorem c_X10_add {L : List Nat} {x : Nat} (hi : adOK τ) (hL : ∀ y ∈ L, isD (σ.2 9 y)) (hx : isD (σ.2 9 x)) (hs : L.length < 200) (hT : TrI σ κ L) (hq : ∀ κ', KT κ κ' → TrI σ κ' (insB (dKey σ) x L) → Q none (cm τ κ' Md)) : CT G (d + 1) (0, 0) MX10_add [.ref (τ 10), .int (σ.2 9 x), .int (σ.2 11 x)] (cm τ κ Md) Q := by
  obtain ⟨h1, h2⟩ := hT
  refine CT.of rfl (Nat.le_of_ble_eq_true rfl) ?_
  refine x_aload_n dX10_add_0 rfl rfl ?_
  refine x_getf dX10_add_1 lf_X10_18 (kc hi kf_10) kv_10_2 ?_
  rw [h1]
  refine x_aload_n dX10_add_4 rfl rfl ?_
  refine x_getf dX10_add_5 lf_X10_9 (kc hi kf_10) kv_10_0 ?_
  refine x_alen dX10_add_8 (by decide) (by decide) (kc hi kf_26) ?_
  refine x_icmp_lt (tgt := 13) dX10_add_9 (by decide) (fun _ => ?_) (fun z => absurd (nI_lt (b := 200) hs (by decide)) z)
  refine x_aload_n dX10_add_13 rfl rfl ?_
  refine x_getf dX10_add_14 lf_X10_18 (kc hi kf_10) kv_10_2 ?_
  rw [h1]
  refine x_istore_n dX10_add_17 rfl (by decide) ?_
  refine x_loc _ (?_ : lle _ _) (trn_in (d := d) hi hL hx hs hq L.length κ (Nat.le_refl _) KT.rf h1 h2 (fun i a b => by omega) rfl)
  exact ⟨rfl, rfl, rfl, rfl, trivial⟩
/-- the rows' moods as one function -/
theorem TrI.m {L : List Nat} (hT : TrI σ κ L) {i : Nat} (hi : i < L.length) : κ.2 27 i = σ.2 11 (L.getD i 0) := (hT.2 i hi).2
theorem c_X10_sumAhead {L : List Nat} {n : Nat} (hi : adOK τ) (hT : TrI σ κ L) (hL : L.length ≤ 200) (hn : n ≤ L.length) (hq : Q (some (.int (sumF (fun i => σ.2 11 (L.getD i 0)) n))) (cm τ κ Md)) : CT G d (0, 0) MX10_sumAhead [.ref (τ 10), .int (nI n)] (cm τ κ Md) Q := by
  refine CT.of rfl (Nat.le_of_ble_eq_true rfl) ?_
  refine x_iconst (v := 0) dX10_sumAhead_0 (by decide) ?_
  refine x_istore_n dX10_sumAhead_1 rfl (by decide) ?_
  refine x_iconst (v := 0) dX10_sumAhead_2 (by decide) ?_
  refine x_istore_n dX10_sumAhead_3 rfl (by decide) ?_
  refine x_loc [(0, .ref (τ 10)), (1, .int (nI n)), (2, .int (sumF (fun t => σ.2 11 (L.getD t 0)) 0)), (3, .int (nI 0))] ⟨rfl, rfl, rfl, rfl, trivial⟩ ?_
  refine loop_up (P := fun i => XJ G d (0, 0) MX10_sumAhead (cm τ κ Md) [(0, .ref (τ 10)), (1, .int (nI n)), (2, .int (sumF (fun t => σ.2 11 (L.getD t 0)) i)), (3, .int (nI i))] [] 4 Q) (n := n) ?_ ?_ 0 (Nat.zero_le _)
  · refine x_iload_n dX10_sumAhead_4 rfl rfl ?_
    refine x_iload_n dX10_sumAhead_5 rfl rfl ?_
    refine x_icmp_ge (tgt := 33) dX10_sumAhead_6 (by decide) (fun _ => ?_) (fun z => absurd (loopT rfl) z)
    refine x_iload_n dX10_sumAhead_33 rfl rfl ?_
    exact x_ireturn dX10_sumAhead_34 rfl rfl (hq)
  · intro i hlt ih
    have hcl : (nI i).toNatClampNeg = i := nI_clamp (by omega)
    refine x_iload_n dX10_sumAhead_4 rfl rfl ?_
    refine x_iload_n dX10_sumAhead_5 rfl rfl ?_
    refine x_icmp_ge (tgt := 33) dX10_sumAhead_6 (by decide) (fun z => absurd z (loopF rfl hlt (by omega))) (fun _ => ?_)
    refine x_iload_n dX10_sumAhead_9 rfl rfl ?_
    refine x_aload_n dX10_sumAhead_10 rfl rfl ?_
    refine x_getf dX10_sumAhead_11 lf_X10_15 (kc hi kf_10) kv_10_1 ?_
    refine x_alen dX10_sumAhead_14 (by decide) (by decide) (kc hi kf_27) ?_
    refine x_icmp_ge (tgt := 33) dX10_sumAhead_15 (by decide) (fun z => absurd z (nI_ge (b := 200) (by omega) (by decide))) (fun _ => ?_)
    refine x_iload_n dX10_sumAhead_18 rfl rfl ?_
    refine x_aload_n dX10_sumAhead_19 rfl rfl ?_
    refine x_getf dX10_sumAhead_20 lf_X10_15 (kc hi kf_10) kv_10_1 ?_
    refine x_iload_n dX10_sumAhead_23 rfl rfl ?_
    refine xk_iald 27 dX10_sumAhead_24 kf_27 rfl hi (vp_in_nI (by omega) (by decide)) hcl ?_
    rw [hT.m (by omega)]
    refine x_iadd dX10_sumAhead_25 ?_
    refine x_istore_n dX10_sumAhead_26 rfl (by decide) ?_
    refine x_iinc (c := 1) dX10_sumAhead_27 rfl (by decide) ?_
    refine x_goto (tgt := 4) dX10_sumAhead_30 (by decide) ?_
    refine x_loc _ (?_ : lle _ _) ih
    refine ⟨rfl, rfl, ?_, ?_, trivial⟩
    · show some (Value.int _) = some (Value.int _)
      rw [sumF_s]
    · show some (Value.int _) = some (Value.int (nI (i + 1)))
      rw [← nI_1]
theorem c_X10_distance {L : List Nat} {f : Nat} {s all : Int32} (hi : adOK τ) (hT : TrI σ κ L) (hq : Q (some (.long (dsV s all L.length f))) (cm τ κ Md)) : CT G (d + 1) (0, 0) MX10_distance [.ref (τ 10), .int s, .int all, .int (nI f)] (cm τ κ Md) Q := by
  refine CT.of rfl (Nat.le_of_ble_eq_true rfl) ?_
  refine x_aload_n dX10_distance_0 rfl rfl ?_
  refine x_getf dX10_distance_1 lf_X10_18 (kc hi kf_10) kv_10_2 ?_
  rw [hT.1]
  refine x_iload_n dX10_distance_4 rfl rfl ?_
  refine x_isub dX10_distance_5 ?_
  refine x_i2l dX10_distance_6 ?_
  refine x_lstore dX10_distance_7 (by decide) ?_
  refine x_iload_n dX10_distance_9 rfl rfl ?_
  refine x_i2l dX10_distance_10 ?_
  refine x_lload dX10_distance_11 rfl ?_
  refine x_lmul dX10_distance_13 ?_
  refine x_iload_n dX10_distance_14 rfl rfl ?_
  refine x_iload_n dX10_distance_15 rfl rfl ?_
  refine x_isub dX10_distance_16 ?_
  refine x_i2l dX10_distance_17 ?_
  refine x_iload_n dX10_distance_18 rfl rfl ?_
  refine x_i2l dX10_distance_19 ?_
  refine x_lmul dX10_distance_20 ?_
  refine x_lsub dX10_distance_21 ?_
  refine x_cS1 dX10_distance_22 ls_X10_34 rfl  (c_J9_abs_067f4 ?_)
  exact x_lreturn dX10_distance_25 rfl (hq)
/-- what is known of the rows in a turn -/
def TurC (σ κ : MS) (a : Nat) (q : Int32) (m : Nat) : Prop := TrI σ κ (tAll σ a q m) ∧ 0 < tF σ a q m ∧ tF σ a q m ≤ 200 ∧ mB (tMs σ a q m) (tF σ a q m)
theorem sumF_i {ms : Nat → Int32} {N : Nat} (h : mB ms N) (hN : 0 < N) (hN2 : N ≤ 200) : ∀ n, n ≤ N → (sumF ms n).toInt = wZ ms N n 0
  | 0, _ => rfl
  | n + 1, hn => by
    have ih := sumF_i h hN hN2 n (by omega)
    have hb := h n (by omega)
    have hw := wZ_bd h hN n 0
    have ew : wZ ms N (n + 1) 0 = wZ ms N n 0 + (ms ((n + 0) % N)).toInt := rfl
    rw [Nat.add_zero, Nat.mod_eq_of_lt (by omega)] at ew
    rw [sumF_s, i_add (by rw [ih]; omega), ih, ew]
    rfl
theorem c_X10_split {a m : Nat} {q : Int32} (hi : adOK τ) (hT : TrI σ κ (tAll σ a q m)) (hN2 : tF σ a q m ≤ 200) (hB : 0 < tF σ a q m → mB (tMs σ a q m) (tF σ a q m)) (hq : Q (some (.int (if clS σ a q m (tF σ a q m - 1) = 0 then -1 else nI (clS σ a q m (tF σ a q m - 1))))) (cm τ κ Md)) : CT G (d + 2) (0, 0) MX10_split [.ref (τ 10)] (cm τ κ Md) Q := by
  have hL : (tAll σ a q m).length ≤ 200 := hN2
  refine CT.of rfl (Nat.le_of_ble_eq_true rfl) ?_
  have hsz : κ.1 102 = nI (tF σ a q m) := hT.1
  refine x_iconst (v := -1) dX10_split_0 (by decide) ?_
  refine x_istore_n dX10_split_1 rfl (by decide) ?_
  refine x_lconst (v := 0) dX10_split_2 (by decide) ?_
  refine x_lstore_n dX10_split_3 rfl (by decide) ?_
  refine x_lconst (v := 1) dX10_split_4 (by decide) ?_
  refine x_lstore dX10_split_5 (by decide) ?_
  refine x_aload_n dX10_split_7 rfl rfl ?_
  refine x_aload_n dX10_split_8 rfl rfl ?_
  refine x_getf dX10_split_9 lf_X10_18 (kc hi kf_10) kv_10_2 ?_
  rw [hsz]
  refine x_cV1 dX10_split_12 lv_X10_22 (kc hi kf_10) rfl rfl rfl  (c_X10_sumAhead (n := tF σ a q m) hi hT hL (Nat.le_refl _) ?_)
  refine x_istore dX10_split_15 (by decide) ?_
  refine x_iconst (v := 0) dX10_split_17 (by decide) ?_
  refine x_istore dX10_split_18 (by decide) ?_
  refine x_iconst (v := 1) dX10_split_20 (by decide) ?_
  refine x_istore dX10_split_21 (by decide) ?_
  have H : ∀ f n, n + f = tF σ a q m - 1 → ∀ (best : Int32) (bd bs : Int64), best = (if clS σ a q m n = 0 then -1 else nI (clS σ a q m n)) → (clS σ a q m n ≠ 0 → bd = spApart (tMs σ a q m) (tF σ a q m) (clS σ a q m n) 0 ∧ bs = (nI (clS σ a q m n)).toInt64 * (nI (tF σ a q m) - nI (clS σ a q m n)).toInt64) → XJ G (d + 2) (0, 0) MX10_split (cm τ κ Md) [(0, .ref (τ 10)), (1, .int best), (2, .long bd), (4, .long bs), (6, .int (sumF (tMs σ a q m) (tF σ a q m))), (7, .int (sumF (tMs σ a q m) n)), (8, .int (nI (n + 1)))] [] 23 Q := by
    intro f
    induction f with
    | zero =>
      intro n hnf best bd bs hb1 hb2
      obtain rfl : n = tF σ a q m - 1 := by omega
      refine x_iload dX10_split_23 rfl ?_
      refine x_aload_n dX10_split_25 rfl rfl ?_
      refine x_getf dX10_split_26 lf_X10_18 (kc hi kf_10) kv_10_2 ?_
      rw [hsz]
      refine x_icmp_ge (tgt := 128) dX10_split_29 (by decide) (fun _ => ?_) (fun z => absurd (nI_le (by omega) (by omega)) z)
      refine x_iload_n dX10_split_128 rfl rfl ?_
      exact x_ireturn dX10_split_129 rfl rfl (by rw [hb1]; exact hq)
    | succ f ih =>
      intro n hnf best bd bs hb1 hb2
      have hN : 0 < tF σ a q m := by omega
      have hBB := hB hN
      have hn1 : n + 1 < tF σ a q m := by omega
      have hcl : (nI n).toNatClampNeg = n := nI_clamp (by omega)
      have hcl1 : (nI (n + 1)).toNatClampNeg = n + 1 := nI_clamp (by omega)
      have r0 := hT.2 n (by show n < tF σ a q m; omega)
      have r1 := hT.2 (n + 1) (by show n + 1 < tF σ a q m; omega)
      have hcle := clS_le (σ := σ) (a := a) (q := q) (m := m) n
      have hds : dsV (sumF (tMs σ a q m) (n + 1)) (sumF (tMs σ a q m) (tF σ a q m)) (tF σ a q m) (n + 1) = spApart (tMs σ a q m) (tF σ a q m) (n + 1) 0 := ds_eq hBB hN hN2 (by omega) (sumF_i hBB hN hN2 _ (by omega)) (sumF_i hBB hN hN2 _ (Nat.le_refl _))
      have hst : ∀ (best : Int32) (bd bs : Int64), best = (if clS σ a q m (n + 1) = 0 then -1 else nI (clS σ a q m (n + 1))) → (clS σ a q m (n + 1) ≠ 0 → bd = spApart (tMs σ a q m) (tF σ a q m) (clS σ a q m (n + 1)) 0 ∧ bs = (nI (clS σ a q m (n + 1))).toInt64 * (nI (tF σ a q m) - nI (clS σ a q m (n + 1))).toInt64) → XJ G (d + 2) (0, 0) MX10_split (cm τ κ Md) [(0, .ref (τ 10)), (1, .int best), (2, .long bd), (4, .long bs), (6, .int (sumF (tMs σ a q m) (tF σ a q m))), (7, .int (sumF (tMs σ a q m) (n + 1))), (8, .int (nI (n + 1)))] [] 122 Q := by
        intro best bd bs g1 g2
        refine x_iinc (c := 1) dX10_split_122 rfl (by decide) ?_
        refine x_goto (tgt := 23) dX10_split_125 (by decide) ?_
        refine x_loc _ (?_ : lle _ _) (ih (n + 1) (by omega) best bd bs g1 g2)
        refine ⟨rfl, rfl, rfl, rfl, rfl, rfl, ?_, trivial⟩
        show some (Value.int (nI (n + 1) + 1)) = some (Value.int (nI (n + 1 + 1)))
        rw [nI_1]
      have hsum : sumF (tMs σ a q m) n + σ.2 11 ((tAll σ a q m).getD n 0) = sumF (tMs σ a q m) (n + 1) := rfl
      refine x_iload dX10_split_23 rfl ?_
      refine x_aload_n dX10_split_25 rfl rfl ?_
      refine x_getf dX10_split_26 lf_X10_18 (kc hi kf_10) kv_10_2 ?_
      rw [hsz]
      refine x_icmp_ge (tgt := 128) dX10_split_29 (by decide) (fun z => absurd z (nI_ge hn1 (by omega))) (fun _ => ?_)
      refine x_iload dX10_split_32 rfl ?_
      refine x_aload_n dX10_split_34 rfl rfl ?_
      refine x_getf dX10_split_35 lf_X10_15 (kc hi kf_10) kv_10_1 ?_
      refine x_iload dX10_split_38 rfl ?_
      refine x_iconst (v := 1) dX10_split_40 (by decide) ?_
      refine x_isub dX10_split_41 ?_
      rw [nI_pred]
      refine xk_iald 27 dX10_split_42 kf_27 rfl hi (vp_in_nI (by omega) (by decide)) hcl ?_
      rw [r0.2]
      refine x_iadd dX10_split_43 ?_
      rw [hsum]
      refine x_istore dX10_split_44 (by decide) ?_
      refine x_aload_n dX10_split_46 rfl rfl ?_
      refine x_getf dX10_split_47 lf_X10_9 (kc hi kf_10) kv_10_0 ?_
      refine x_iload dX10_split_50 rfl ?_
      refine x_iconst (v := 1) dX10_split_52 (by decide) ?_
      refine x_isub dX10_split_53 ?_
      rw [nI_pred]
      refine xk_iald 26 dX10_split_54 kf_26 rfl hi (vp_in_nI (by omega) (by decide)) hcl ?_
      rw [r0.1]
      refine x_aload_n dX10_split_55 rfl rfl ?_
      refine x_getf dX10_split_56 lf_X10_9 (kc hi kf_10) kv_10_0 ?_
      refine x_iload dX10_split_59 rfl ?_
      refine xk_iald 26 dX10_split_61 kf_26 rfl hi (vp_in_nI (by omega) (by decide)) hcl1 ?_
      rw [r1.1]
      refine x_icmp_ne (tgt := 68) dX10_split_62 (by decide) (fun h62 => ?_) (fun h62 => ?_)
      · refine x_aload_n dX10_split_68 rfl rfl ?_
        refine x_iload dX10_split_69 rfl ?_
        refine x_iload dX10_split_71 rfl ?_
        refine x_iload dX10_split_73 rfl ?_
        refine x_cV3 dX10_split_75 lv_X10_26 (kc hi kf_10) rfl rfl rfl  (c_X10_distance (L := tAll σ a q m) (f := n + 1) hi hT ?_)
        rw [show dsV (sumF (tMs σ a q m) (n + 1)) (sumF (tMs σ a q m) (tF σ a q m)) (tAll σ a q m).length (n + 1) = _ from hds]
        refine x_lstore dX10_split_78 (by decide) ?_
        refine x_iload dX10_split_80 rfl ?_
        refine x_i2l dX10_split_82 ?_
        refine x_aload_n dX10_split_83 rfl rfl ?_
        refine x_getf dX10_split_84 lf_X10_18 (kc hi kf_10) kv_10_2 ?_
        rw [hsz]
        refine x_iload dX10_split_87 rfl ?_
        refine x_isub dX10_split_89 ?_
        refine x_i2l dX10_split_90 ?_
        refine x_lmul dX10_split_91 ?_
        refine x_lstore dX10_split_92 (by decide) ?_
        refine x_iload_n dX10_split_94 rfl rfl ?_
        refine x_iconst (v := -1) dX10_split_95 (by decide) ?_
        refine x_icmp_eq (tgt := 112) dX10_split_96 (by decide) (fun h96 => ?_) (fun h96 => ?_)
        · have hbd : tBd σ a q m (n + 1) := ⟨Nat.succ_pos n, hn1, fun z => h62 z⟩
          have hyes : clS σ a q m (n + 1) = n + 1 := by
            rw [clS_s]
            refine cI_t ⟨hbd, ?_⟩
            by_cases hc0 : clS σ a q m n = 0
            · exact Or.inl hc0
            · refine Or.inr ?_
              obtain ⟨e1, e2⟩ := hb2 hc0
              unfold tBet
              rw [Int64.mul_assoc, Int64.mul_assoc, ← e1, ← e2]
              first
              | exact Int32.not_le.mp h109
              | exact absurd (hb1.symm.trans (by first | exact h96 | exact Classical.byContradiction h96)) (by rw [if_neg hc0]; exact nI_n1 (by omega))
          refine x_iload dX10_split_112 rfl ?_
          refine x_istore_n dX10_split_114 rfl (by decide) ?_
          refine x_lload dX10_split_115 rfl ?_
          refine x_lstore_n dX10_split_117 rfl (by decide) ?_
          refine x_lload dX10_split_118 rfl ?_
          refine x_lstore dX10_split_120 (by decide) ?_
          refine x_loc _ (?_ : lle _ _) (hst (nI (n + 1)) _ _ (by rw [hyes, if_neg (by omega)]) (fun _ => by rw [hyes]; exact ⟨rfl, rfl⟩))
          exact ⟨rfl, rfl, rfl, rfl, rfl, rfl, rfl, trivial⟩
        · refine x_lload dX10_split_99 rfl ?_
          refine x_lload dX10_split_101 rfl ?_
          refine x_lmul dX10_split_103 ?_
          refine x_lload_n dX10_split_104 rfl rfl ?_
          refine x_lload dX10_split_105 rfl ?_
          refine x_lmul dX10_split_107 ?_
          refine x_lcmp dX10_split_108 ?_
          refine x_if_le (tgt := 122) dX10_split_109 (by decide) (fun h109 => ?_) (fun h109 => ?_)
          · have hno : clS σ a q m (n + 1) = clS σ a q m n := by
              first
              | exact clS_no (fun z => z.2.2 (by show tD σ a q m n = tD σ a q m (n + 1); exact h62))
              | exact clS_no (fun z => z.2.2 (by show tD σ a q m n = tD σ a q m (n + 1); exact Classical.byContradiction h62))
              | (rw [clS_s, cI_f (fun z => ?_)]
                 have hc0 : clS σ a q m n ≠ 0 := fun y => h96 (by rw [hb1, if_pos y])
                 rcases z.2 with y | y
                 · exact hc0 y
                 · obtain ⟨e1, e2⟩ := hb2 hc0
                   unfold tBet at y
                   rw [Int64.mul_assoc, Int64.mul_assoc, ← e1, ← e2] at y
                   exact absurd y (Int32.not_lt.mpr h109))
            refine x_loc _ (?_ : lle _ _) (hst best bd bs (by rw [hno]; exact hb1) (by rw [hno]; exact hb2))
            exact ⟨rfl, rfl, rfl, rfl, rfl, rfl, rfl, trivial⟩
          · have hbd : tBd σ a q m (n + 1) := ⟨Nat.succ_pos n, hn1, fun z => h62 z⟩
            have hyes : clS σ a q m (n + 1) = n + 1 := by
              rw [clS_s]
              refine cI_t ⟨hbd, ?_⟩
              by_cases hc0 : clS σ a q m n = 0
              · exact Or.inl hc0
              · refine Or.inr ?_
                obtain ⟨e1, e2⟩ := hb2 hc0
                unfold tBet
                rw [Int64.mul_assoc, Int64.mul_assoc, ← e1, ← e2]
                first
                | exact Int32.not_le.mp h109
                | exact absurd (hb1.symm.trans (by first | exact h96 | exact Classical.byContradiction h96)) (by rw [if_neg hc0]; exact nI_n1 (by omega))
            refine x_iload dX10_split_112 rfl ?_
            refine x_istore_n dX10_split_114 rfl (by decide) ?_
            refine x_lload dX10_split_115 rfl ?_
            refine x_lstore_n dX10_split_117 rfl (by decide) ?_
            refine x_lload dX10_split_118 rfl ?_
            refine x_lstore dX10_split_120 (by decide) ?_
            refine x_loc _ (?_ : lle _ _) (hst (nI (n + 1)) _ _ (by rw [hyes, if_neg (by omega)]) (fun _ => by rw [hyes]; exact ⟨rfl, rfl⟩))
            exact ⟨rfl, rfl, rfl, rfl, rfl, rfl, rfl, trivial⟩
      · refine x_goto (tgt := 122) dX10_split_65 (by decide) ?_
        have hno : clS σ a q m (n + 1) = clS σ a q m n := by
          first
          | exact clS_no (fun z => z.2.2 (by show tD σ a q m n = tD σ a q m (n + 1); exact h62))
          | exact clS_no (fun z => z.2.2 (by show tD σ a q m n = tD σ a q m (n + 1); exact Classical.byContradiction h62))
          | (rw [clS_s, cI_f (fun z => ?_)]
             have hc0 : clS σ a q m n ≠ 0 := fun y => h96 (by rw [hb1, if_pos y])
             rcases z.2 with y | y
             · exact hc0 y
             · obtain ⟨e1, e2⟩ := hb2 hc0
               unfold tBet at y
               rw [Int64.mul_assoc, Int64.mul_assoc, ← e1, ← e2] at y
               exact absurd y (Int32.not_lt.mpr h109))
        refine x_loc _ (?_ : lle _ _) (hst best bd bs (by rw [hno]; exact hb1) (by rw [hno]; exact hb2))
        exact ⟨rfl, rfl, rfl, rfl, rfl, rfl, rfl, trivial⟩
  refine x_loc _ (?_ : lle _ _) (H (tF σ a q m - 1) 0 (by omega) (-1) 0 1 rfl (fun z => absurd rfl z))
  exact ⟨rfl, rfl, rfl, rfl, rfl, rfl, rfl, trivial⟩
theorem c_X10_dayAt {a m s : Nat} {q : Int32} (hi : adOK τ) (hT : TrI σ κ (tAll σ a q m)) (hN2 : tF σ a q m ≤ 200) (h0 : 0 < s) (hs : s < tF σ a q m) (hq : Q (some (.int (tD σ a q m (s - 1) + 1))) (cm τ κ Md)) : CT G (d + 1) (0, 0) MX10_dayAt [.ref (τ 10), .int (nI s)] (cm τ κ Md) Q := by
  have hsz : κ.1 102 = nI (tF σ a q m) := hT.1
  obtain ⟨n, rfl⟩ : ∃ n, s = n + 1 := ⟨s - 1, by omega⟩
  have hcl : (nI n).toNatClampNeg = n := nI_clamp (by omega)
  refine CT.of rfl (Nat.le_of_ble_eq_true rfl) ?_
  refine x_iload_n dX10_dayAt_0 rfl rfl ?_
  refine x_iconst (v := 1) dX10_dayAt_1 (by decide) ?_
  refine x_aload_n dX10_dayAt_2 rfl rfl ?_
  refine x_getf dX10_dayAt_3 lf_X10_18 (kc hi kf_10) kv_10_2 ?_
  rw [hsz]
  refine x_cSN3 dX10_dayAt_6 ls_X10_30 rfl  (c_X11_isWithin ?_)
  refine x_if_eq_b (tgt := 25) dX10_dayAt_9 (by decide) (fun z => absurd (show (1 : Int32) ≤ nI (n + 1) ∧ nI (n + 1) ≤ nI (tF σ a q m) from ⟨nI_le (a := 1) (by omega) (by omega), nI_le (by omega) (by omega)⟩) z) (fun _ => ?_)
  refine x_aload_n dX10_dayAt_12 rfl rfl ?_
  refine x_getf dX10_dayAt_13 lf_X10_9 (kc hi kf_10) kv_10_0 ?_
  refine x_iload_n dX10_dayAt_16 rfl rfl ?_
  refine x_iconst (v := 1) dX10_dayAt_17 (by decide) ?_
  refine x_isub dX10_dayAt_18 ?_
  rw [nI_pred]
  refine xk_iald 26 dX10_dayAt_19 kf_26 rfl hi (vp_in_nI (by omega) (by decide)) hcl ?_
  rw [(hT.2 n (by show n < tF σ a q m; omega)).1]
  refine x_iconst (v := 1) dX10_dayAt_20 (by decide) ?_
  refine x_iadd dX10_dayAt_21 ?_
  refine x_goto (tgt := 26) dX10_dayAt_22 (by decide) ?_
  exact x_ireturn dX10_dayAt_26 rfl rfl (hq)
theorem c_X10_chanceAt {a m s : Nat} {q : Int32} (hi : adOK τ) (hT : TrI σ κ (tAll σ a q m)) (hN2 : tF σ a q m ≤ 200) (hB : mB (tMs σ a q m) (tF σ a q m)) (h0 : 0 < s) (hs : s < tF σ a q m) (hq : Q (some (.int (spChance (tMs σ a q m) (tF σ a q m) s (tF σ a q m)))) (cm τ κ Md)) : CT G (d + 2) (0, 0) MX10_chanceAt [.ref (τ 10), .int (nI s)] (cm τ κ Md) Q := by
  have hL : (tAll σ a q m).length ≤ 200 := hN2
  have hsz : κ.1 102 = nI (tF σ a q m) := hT.1
  have hN : 0 < tF σ a q m := by omega
  have hall := sumF_i hB hN hN2 _ (Nat.le_refl _)
  refine CT.of rfl (Nat.le_of_ble_eq_true rfl) ?_
  have hd0 : dsV (sumF (tMs σ a q m) s) (sumF (tMs σ a q m) (tF σ a q m)) (tF σ a q m) s = spApart (tMs σ a q m) (tF σ a q m) s 0 := ds_eq hB hN hN2 (by omega) (sumF_i hB hN hN2 _ (by omega)) hall
  refine x_iload_n dX10_chanceAt_0 rfl rfl ?_
  refine x_iconst (v := 1) dX10_chanceAt_1 (by decide) ?_
  refine x_aload_n dX10_chanceAt_2 rfl rfl ?_
  refine x_getf dX10_chanceAt_3 lf_X10_18 (kc hi kf_10) kv_10_2 ?_
  rw [hsz]
  refine x_iconst (v := 1) dX10_chanceAt_6 (by decide) ?_
  refine x_isub dX10_chanceAt_7 ?_
  refine x_cSN3 dX10_chanceAt_8 ls_X10_30 rfl  (c_X11_isWithin ?_)
  refine x_if_ne_b (tgt := 16) dX10_chanceAt_11 (by decide) (fun _ => ?_) (fun z => absurd (show (1 : Int32) ≤ nI s ∧ nI s ≤ nI (tF σ a q m) - 1 from ⟨nI_le (a := 1) (by omega) (by omega), (le_p1 (by omega)).mpr (nI_lt hs (by omega))⟩) z)
  refine x_aload_n dX10_chanceAt_16 rfl rfl ?_
  refine x_aload_n dX10_chanceAt_17 rfl rfl ?_
  refine x_getf dX10_chanceAt_18 lf_X10_18 (kc hi kf_10) kv_10_2 ?_
  rw [hsz]
  refine x_cV1 dX10_chanceAt_21 lv_X10_22 (kc hi kf_10) rfl rfl rfl  (c_X10_sumAhead (n := tF σ a q m) hi hT hL (Nat.le_refl _) ?_)
  refine x_istore_n dX10_chanceAt_24 rfl (by decide) ?_
  refine x_aload_n dX10_chanceAt_25 rfl rfl ?_
  refine x_iload_n dX10_chanceAt_26 rfl rfl ?_
  refine x_cV1 dX10_chanceAt_27 lv_X10_22 (kc hi kf_10) rfl rfl rfl  (c_X10_sumAhead (n := s) hi hT hL (by show s ≤ tF σ a q m; omega) ?_)
  refine x_istore_n dX10_chanceAt_30 rfl (by decide) ?_
  refine x_aload_n dX10_chanceAt_31 rfl rfl ?_
  refine x_iload_n dX10_chanceAt_32 rfl rfl ?_
  refine x_iload_n dX10_chanceAt_33 rfl rfl ?_
  refine x_iload_n dX10_chanceAt_34 rfl rfl ?_
  refine x_cV3 dX10_chanceAt_35 lv_X10_26 (kc hi kf_10) rfl rfl rfl  (c_X10_distance (L := tAll σ a q m) (f := s) hi hT ?_)
  rw [show dsV (sumF (fun i => σ.2 11 ((tAll σ a q m).getD i 0)) s) (sumF (fun i => σ.2 11 ((tAll σ a q m).getD i 0)) (tF σ a q m)) (tAll σ a q m).length s = _ from hd0]
  refine x_lstore dX10_chanceAt_38 (by decide) ?_
  refine x_iconst (v := 0) dX10_chanceAt_40 (by decide) ?_
  refine x_istore dX10_chanceAt_41 (by decide) ?_
  refine x_iconst (v := 0) dX10_chanceAt_43 (by decide) ?_
  refine x_istore dX10_chanceAt_44 (by decide) ?_
  have H : ∀ f b, b + f = tF σ a q m → ∀ w : Int32, w.toInt = wZ (tMs σ a q m) (tF σ a q m) s b → XJ G (d + 2) (0, 0) MX10_chanceAt (cm τ κ Md) [(0, .ref (τ 10)), (1, .int (nI s)), (2, .int (sumF (tMs σ a q m) (tF σ a q m))), (3, .int w), (4, .long (spApart (tMs σ a q m) (tF σ a q m) s 0)), (6, .int (spChance (tMs σ a q m) (tF σ a q m) s b)), (7, .int (nI b))] [] 46 Q := by
    intro f
    induction f with
    | zero =>
      intro b hbf w hw
      obtain rfl : b = tF σ a q m := by omega
      refine x_iload dX10_chanceAt_46 rfl ?_
      refine x_aload_n dX10_chanceAt_48 rfl rfl ?_
      refine x_getf dX10_chanceAt_49 lf_X10_18 (kc hi kf_10) kv_10_2 ?_
      rw [hsz]
      refine x_icmp_ge (tgt := 124) dX10_chanceAt_52 (by decide) (fun _ => ?_) (fun z => absurd (Int32.le_refl _) z)
      refine x_iload dX10_chanceAt_124 rfl ?_
      exact x_ireturn dX10_chanceAt_126 rfl rfl (hq)
    | succ f ih =>
      intro b hbf w hw
      have hlt : b < tF σ a q m := by omega
      have hclb : (nI b).toNatClampNeg = b := nI_clamp (by omega)
      have es := chance_s (tMs σ a q m) (tF σ a q m) s b
      have hdb : dsV w (sumF (tMs σ a q m) (tF σ a q m)) (tF σ a q m) s = spApart (tMs σ a q m) (tF σ a q m) s b := ds_eq hB hN hN2 (by omega) hw hall
      have hst : ∀ c : Int32, c = spChance (tMs σ a q m) (tF σ a q m) s (b + 1) → XJ G (d + 2) (0, 0) MX10_chanceAt (cm τ κ Md) [(0, .ref (τ 10)), (1, .int (nI s)), (2, .int (sumF (tMs σ a q m) (tF σ a q m))), (3, .int w), (4, .long (spApart (tMs σ a q m) (tF σ a q m) s 0)), (6, .int c), (7, .int (nI b))] [] 71 Q := by
        intro c hc
        subst hc
        have hnext : ∀ x : Nat, x < tF σ a q m → x = (s + b) % tF σ a q m → XJ G (d + 2) (0, 0) MX10_chanceAt (cm τ κ Md) [(0, .ref (τ 10)), (1, .int (nI s)), (2, .int (sumF (tMs σ a q m) (tF σ a q m))), (3, .int w), (4, .long (spApart (tMs σ a q m) (tF σ a q m) s 0)), (6, .int (spChance (tMs σ a q m) (tF σ a q m) s (b + 1))), (7, .int (nI b))] [.int (nI x)] 98 Q := by
          intro x hx hxe
          have hclx : (nI x).toNatClampNeg = x := nI_clamp (by omega)
          have bx := hB x hx
          have bb := hB b hlt
          have bw := wZ_bd hB hN s b
          have bw2 := wZ_bd hB hN s (b + 1)
          have hws := wZ_s (tMs σ a q m) (tF σ a q m) s b
          rw [← hxe, Nat.mod_eq_of_lt hlt] at hws
          refine x_istore dX10_chanceAt_98 (by decide) ?_
          refine x_iload_n dX10_chanceAt_100 rfl rfl ?_
          refine x_aload_n dX10_chanceAt_101 rfl rfl ?_
          refine x_getf dX10_chanceAt_102 lf_X10_15 (kc hi kf_10) kv_10_1 ?_
          refine x_iload dX10_chanceAt_105 rfl ?_
          refine xk_iald 27 dX10_chanceAt_107 kf_27 rfl hi (vp_in_nI (by omega) (by decide)) hclx ?_
          rw [(hT.2 x hx).2]
          refine x_aload_n dX10_chanceAt_108 rfl rfl ?_
          refine x_getf dX10_chanceAt_109 lf_X10_15 (kc hi kf_10) kv_10_1 ?_
          refine x_iload dX10_chanceAt_112 rfl ?_
          refine xk_iald 27 dX10_chanceAt_114 kf_27 rfl hi (vp_in_nI (by omega) (by decide)) hclb ?_
          rw [(hT.2 b hlt).2]
          refine x_isub dX10_chanceAt_115 ?_
          refine x_iadd dX10_chanceAt_116 ?_
          refine x_istore_n dX10_chanceAt_117 rfl (by decide) ?_
          refine x_iinc (c := 1) dX10_chanceAt_118 rfl (by decide) ?_
          refine x_goto (tgt := 46) dX10_chanceAt_121 (by decide) ?_
          have e1 : (tMs σ a q m x - tMs σ a q m b).toInt = (tMs σ a q m x).toInt - (tMs σ a q m b).toInt := i_sub (by omega)
          refine x_loc _ (?_ : lle _ _) (ih (b + 1) (by omega) (w + (tMs σ a q m x - tMs σ a q m b)) (by rw [i_add (by rw [e1, hw]; omega), e1, hw, hws]; omega))
          refine ⟨rfl, rfl, rfl, rfl, rfl, rfl, ?_, trivial⟩
          show some (Value.int (nI b + 1)) = some (Value.int (nI (b + 1)))
          rw [nI_1]
        by_cases hsb : b + s < tF σ a q m
        · refine x_iload dX10_chanceAt_71 rfl ?_
          refine x_iload_n dX10_chanceAt_73 rfl rfl ?_
          refine x_iadd dX10_chanceAt_74 ?_
          rw [nI_add]
          refine x_aload_n dX10_chanceAt_75 rfl rfl ?_
          refine x_getf dX10_chanceAt_76 lf_X10_18 (kc hi kf_10) kv_10_2 ?_
          rw [hsz]
          refine x_icmp_ge (tgt := 89) dX10_chanceAt_79 (by decide) (fun z => absurd z (nI_ge hsb (by omega))) (fun _ => ?_)
          refine x_iload dX10_chanceAt_82 rfl ?_
          refine x_iload_n dX10_chanceAt_84 rfl rfl ?_
          refine x_iadd dX10_chanceAt_85 ?_
          rw [nI_add]
          refine x_goto (tgt := 98) dX10_chanceAt_86 (by decide) ?_
          exact hnext (b + s) hsb (by rw [Nat.add_comm, Nat.mod_eq_of_lt (by omega)])
        · have e2 : nI (b + s) - nI (tF σ a q m) = nI (b + s - tF σ a q m) := by
            obtain ⟨r, hr⟩ : ∃ r, b + s = r + tF σ a q m := ⟨b + s - tF σ a q m, by omega⟩
            rw [hr, ← nI_add, Int32.add_sub_cancel, Nat.add_sub_cancel]
          refine x_iload dX10_chanceAt_71 rfl ?_
          refine x_iload_n dX10_chanceAt_73 rfl rfl ?_
          refine x_iadd dX10_chanceAt_74 ?_
          rw [nI_add]
          refine x_aload_n dX10_chanceAt_75 rfl rfl ?_
          refine x_getf dX10_chanceAt_76 lf_X10_18 (kc hi kf_10) kv_10_2 ?_
          rw [hsz]
          refine x_icmp_ge (tgt := 89) dX10_chanceAt_79 (by decide) (fun _ => ?_) (fun z => absurd (nI_le (by omega) (by omega)) z)
          refine x_iload dX10_chanceAt_89 rfl ?_
          refine x_iload_n dX10_chanceAt_91 rfl rfl ?_
          refine x_iadd dX10_chanceAt_92 ?_
          rw [nI_add]
          refine x_aload_n dX10_chanceAt_93 rfl rfl ?_
          refine x_getf dX10_chanceAt_94 lf_X10_18 (kc hi kf_10) kv_10_2 ?_
          rw [hsz]
          refine x_isub dX10_chanceAt_97 ?_
          rw [e2]
          exact hnext (b + s - tF σ a q m) (by omega) (by rw [Nat.add_comm s b, Nat.mod_eq_sub_mod (by omega), Nat.mod_eq_of_lt (by omega)])
      refine x_iload dX10_chanceAt_46 rfl ?_
      refine x_aload_n dX10_chanceAt_48 rfl rfl ?_
      refine x_getf dX10_chanceAt_49 lf_X10_18 (kc hi kf_10) kv_10_2 ?_
      rw [hsz]
      refine x_icmp_ge (tgt := 124) dX10_chanceAt_52 (by decide) (fun z => absurd z (nI_ge hlt (by omega))) (fun _ => ?_)
      refine x_aload_n dX10_chanceAt_55 rfl rfl ?_
      refine x_iload_n dX10_chanceAt_56 rfl rfl ?_
      refine x_iload_n dX10_chanceAt_57 rfl rfl ?_
      refine x_iload_n dX10_chanceAt_58 rfl rfl ?_
      refine x_cV3 dX10_chanceAt_59 lv_X10_26 (kc hi kf_10) rfl rfl rfl  (c_X10_distance (L := tAll σ a q m) (f := s) hi hT ?_)
      rw [show dsV w (sumF (tMs σ a q m) (tF σ a q m)) (tAll σ a q m).length s = _ from hdb]
      refine x_lload dX10_chanceAt_62 rfl ?_
      refine x_lcmp dX10_chanceAt_64 ?_
      refine x_if_lt (tgt := 71) dX10_chanceAt_65 (by decide) (fun h65 => ?_) (fun h65 => ?_)
      · first
        | (refine x_loc _ (?_ : lle _ _) (hst (spChance (tMs σ a q m) (tF σ a q m) s b) (by rw [es, if_neg (Int32.not_le.mpr h65)]))
           exact ⟨rfl, rfl, rfl, rfl, rfl, rfl, rfl, trivial⟩)
        | (refine x_loc _ (?_ : lle _ _) (hst (spChance (tMs σ a q m) (tF σ a q m) s b + 1) (by rw [es, if_pos (Int32.not_lt.mp h65)]))
           exact ⟨rfl, rfl, rfl, rfl, rfl, rfl, rfl, trivial⟩)
      · refine x_iinc (c := 1) dX10_chanceAt_68 rfl (by decide) ?_
        first
        | (refine x_loc _ (?_ : lle _ _) (hst (spChance (tMs σ a q m) (tF σ a q m) s b) (by rw [es, if_neg (Int32.not_le.mpr h65)]))
           exact ⟨rfl, rfl, rfl, rfl, rfl, rfl, rfl, trivial⟩)
        | (refine x_loc _ (?_ : lle _ _) (hst (spChance (tMs σ a q m) (tF σ a q m) s b + 1) (by rw [es, if_pos (Int32.not_lt.mp h65)]))
           exact ⟨rfl, rfl, rfl, rfl, rfl, rfl, rfl, trivial⟩)
  refine x_loc _ (?_ : lle _ _) (H (tF σ a q m) 0 (by omega) (sumF (tMs σ a q m) s) (sumF_i hB hN hN2 _ (by omega)))
  exact ⟨rfl, rfl, rfl, rfl, rfl, rfl, rfl, trivial⟩
theorem tAN_le (σ : MS) (a : Nat) (q : Int32) (m : Nat) (ha : a + m < 5000) : ∀ n, (tAN σ a q n m).length ≤ n
  | 0 => by
    have : ∀ m, (tAN σ a q 0 m).length = 0 := by
      intro m
      induction m with
      | zero => rfl
      | succ m ih =>
        show (tAN σ a q 0 m ++ dayL σ q (nI (a + m)) 0).length = 0
        rw [List.length_append, ih]; rfl
    rw [this m]; exact Nat.le_refl 0
  | n + 1 => by
    have ih := tAN_le σ a q m ha n
    by_cases z : ∃ i, i < m ∧ σ.2 9 n = nI (a + i) ∧ σ.2 14 n ≤ q
    · obtain ⟨i, hi, hd, hq⟩ := z
      rw [tAN_yes hd hq hi ha, insB_len]; omega
    · rw [tAN_no m (fun i hi y => z ⟨i, hi, y.1, y.2⟩)]; omega
theorem c_X11_turn {a b q what : Int32} (hW : Wld G τ ω ε σ κ Md) (hLB : LnB σ) (hM : MoB σ) (hq : ∀ κ', KT κ κ' → Q (some (.int (aTurn σ a b q what))) (cm τ κ' Md)) : CT G (d + 4) (0, 0) MX11_turn [.ref (τ 0), .int a, .int b, .int q, .int what] (cm τ κ Md) Q := by
  have hW' := hW
  obtain ⟨hi, hc, hD, hK⟩ := hW
  obtain ⟨hl1, hl2⟩ := hc.b 16 (b := 200) (by decide)
  refine CT.of rfl (Nat.le_of_ble_eq_true rfl) ?_
  refine x_iload_n dX11_turn_0 rfl rfl ?_
  refine x_cS1 dX11_turn_1 ls_X11_150 rfl  (c_X11_isDay ?_)
  refine x_if_eq_b (tgt := 37) dX11_turn_4 (by decide) (fun h4 => ?_) (fun h4 => ?_)
  · refine x_iconst (v := -1) dX11_turn_37 (by decide) ?_
    exact x_ireturn dX11_turn_38 rfl rfl (fan_f (hq κ KT.rf) (fun z => by first | exact h4 z.1 | exact h11 z.2.1 | exact absurd z.2.2.1 (Int32.not_lt.mpr h16) | exact h24 z.2.2.2.1 | exact h34 z.2.2.2.2))
  · refine x_iload_n dX11_turn_7 rfl rfl ?_
    refine x_cS1 dX11_turn_8 ls_X11_150 rfl  (c_X11_isDay ?_)
    refine x_if_eq_b (tgt := 37) dX11_turn_11 (by decide) (fun h11 => ?_) (fun h11 => ?_)
    · refine x_iconst (v := -1) dX11_turn_37 (by decide) ?_
      exact x_ireturn dX11_turn_38 rfl rfl (fan_f (hq κ KT.rf) (fun z => by first | exact h4 z.1 | exact h11 z.2.1 | exact absurd z.2.2.1 (Int32.not_lt.mpr h16) | exact h24 z.2.2.2.1 | exact h34 z.2.2.2.2))
    · refine x_iload_n dX11_turn_14 rfl rfl ?_
      refine x_iload_n dX11_turn_15 rfl rfl ?_
      refine x_icmp_le (tgt := 37) dX11_turn_16 (by decide) (fun h16 => ?_) (fun h16 => ?_)
      · refine x_iconst (v := -1) dX11_turn_37 (by decide) ?_
        exact x_ireturn dX11_turn_38 rfl rfl (fan_f (hq κ KT.rf) (fun z => by first | exact h4 z.1 | exact h11 z.2.1 | exact absurd z.2.2.1 (Int32.not_lt.mpr h16) | exact h24 z.2.2.2.1 | exact h34 z.2.2.2.2))
      · refine x_aload_n dX11_turn_19 rfl rfl ?_
        refine x_iload_n dX11_turn_20 rfl rfl ?_
        refine x_cV1 dX11_turn_21 lv_X11_158 (kc hi kf_0) rfl rfl rfl  (c_X11_isKnownDay hW' ?_)
        refine x_if_eq_b (tgt := 37) dX11_turn_24 (by decide) (fun h24 => ?_) (fun h24 => ?_)
        · refine x_iconst (v := -1) dX11_turn_37 (by decide) ?_
          exact x_ireturn dX11_turn_38 rfl rfl (fan_f (hq κ KT.rf) (fun z => by first | exact h4 z.1 | exact h11 z.2.1 | exact absurd z.2.2.1 (Int32.not_lt.mpr h16) | exact h24 z.2.2.2.1 | exact h34 z.2.2.2.2))
        · refine x_iload dX11_turn_27 rfl ?_
          refine x_iconst (v := 0) dX11_turn_29 (by decide) ?_
          refine x_iconst (v := 1) dX11_turn_30 (by decide) ?_
          refine x_cS3 dX11_turn_31 ls_X11_92 rfl  (c_X11_isWithin ?_)
          refine x_if_ne_b (tgt := 39) dX11_turn_34 (by decide) (fun h34 => ?_) (fun h34 => ?_)
          · refine x_aload_n dX11_turn_39 rfl rfl ?_
            refine x_getf dX11_turn_40 lf_X11_51 (kc hi kf_0) kv_0_10 ?_
            refine x_cV0 dX11_turn_43 lv_X11_352 (kc hi kf_10) rfl rfl rfl  (c_X10_clear (σ := σ) hi ?_)
            intro κ0 hk0 ht0
            have hab : a < b := Int32.not_le.mp h16
            have hpt : pTurn σ a b q what := ⟨h4, h11, hab, h24, h34⟩
            obtain ⟨A, hA, rfl⟩ := of_le (n := 1000) h4.1 h4.2 rfl (by decide)
            obtain ⟨B, hB, rfl⟩ := of_le (n := 1000) h11.1 h11.2 rfl (by decide)
            have hAB : A < B := (nI_ltI (by omega) (by omega)).mp hab
            obtain ⟨m, rfl⟩ : ∃ m, B = A + m := ⟨B - A, by omega⟩
            have hq2 : ∀ κ', KT κ κ' → Q (some (.int (aTurnN σ A m q what))) (cm τ κ' Md) := fun κ' hk => by
              have := hq κ' hk
              unfold aTurn at this
              rw [cI_t hpt, nI_clamp (by omega), nI_clamp (by omega), Nat.add_sub_cancel_left] at this
              exact this
            have ha5 : A + (m + 1) < 5000 := by omega
            have hmem : ∀ n, ∀ y ∈ tAN σ A q n (m + 1), n ≤ cn σ 16 → isD (σ.2 9 y) := fun n y hy hn => (hLB y (by have := (tAN_mem _ hy).1; omega)).1
            have hNl : tF σ A q (m + 1) ≤ 200 := by
              have := tAN_le σ A q (m + 1) ha5 (cn σ 16)
              rw [tAN_eq] at this
              unfold tF
              omega
            have hmB : mB (tMs σ A q (m + 1)) (tF σ A q (m + 1)) := by
              intro i hi2
              have hm : (tAll σ A q (m + 1)).getD i 0 ∈ tAll σ A q (m + 1) := by
                rw [List.getD_eq_getElem?_getD, List.getElem?_eq_getElem hi2]
                exact List.getElem_mem _
              have := hM _ (tAll_mem hm).1
              exact ⟨Int32.le_iff_toInt_le.mp this.1, Int32.le_iff_toInt_le.mp this.2⟩
            obtain ⟨te1, te2⟩ := turn_eq (σ := σ) (q := q) ha5 m (Nat.le_refl _)
            rw [← turn_all ha5] at te1 te2
            have F : ∀ κ', KT κ κ' → TrI σ κ' (tAll σ A q (m + 1)) → XJ G (d + 4) (0, 0) MX11_turn (cm τ κ' Md) [(0, .ref (τ 0)), (4, .int what)] [] 120 Q := by
              intro κ' hk ht
              have hq3 := hq2 κ' hk
              unfold aTurnN at hq3
              by_cases hc0 : clS σ A q (m + 1) (tF σ A q (m + 1) - 1) = 0
              · rw [if_pos hc0] at te2
                rw [if_pos (Or.inl te2), te2] at hq3
                refine x_aload_n dX11_turn_120 rfl rfl ?_
                refine x_getf dX11_turn_121 lf_X11_51 (kc hi kf_0) kv_0_10 ?_
                refine x_cV0 dX11_turn_124 lv_X11_358 (kc hi kf_10) rfl rfl rfl  (c_X10_split (a := A) (q := q) (m := m + 1) hi ht hNl (fun _ => hmB) ?_)
                rw [if_pos hc0]
                refine x_istore dX11_turn_127 (by decide) ?_
                refine x_iload dX11_turn_129 rfl ?_
                refine x_iconst (v := -1) dX11_turn_131 (by decide) ?_
                refine x_icmp_ne (tgt := 137) dX11_turn_132 (by decide) (fun z => absurd rfl z) (fun _ => ?_)
                refine x_iconst (v := -1) dX11_turn_135 (by decide) ?_
                exact x_ireturn dX11_turn_136 rfl rfl (hq3)
              · have hbd := clS_bd _ hc0
                have hN0 : 0 < tF σ A q (m + 1) := by have := hbd.2.1; omega
                rw [if_neg hc0] at te2
                have hdn : ¬ (spTurn σ A q (m + 1) m).1 = -1 := by
                  rw [te2]
                  obtain ⟨e, -, he9, hd⟩ := tD_hi (σ := σ) (a := A) (q := q) (m := m + 1) (j := 0) (by omega) (i := clS σ A q (m + 1) (tF σ A q (m + 1) - 1) - 1) (Nat.zero_le _) (by have := hbd.2.1; omega)
                  rw [hd, nI_1]
                  exact nI_n1 (by omega)
                have hcl9 := clS_le (σ := σ) (a := A) (q := q) (m := m + 1) (tF σ A q (m + 1) - 1)
                refine x_aload_n dX11_turn_120 rfl rfl ?_
                refine x_getf dX11_turn_121 lf_X11_51 (kc hi kf_0) kv_0_10 ?_
                refine x_cV0 dX11_turn_124 lv_X11_358 (kc hi kf_10) rfl rfl rfl  (c_X10_split (a := A) (q := q) (m := m + 1) hi ht hNl (fun _ => hmB) ?_)
                rw [if_neg hc0]
                refine x_istore dX11_turn_127 (by decide) ?_
                refine x_iload dX11_turn_129 rfl ?_
                refine x_iconst (v := -1) dX11_turn_131 (by decide) ?_
                refine x_icmp_ne (tgt := 137) dX11_turn_132 (by decide) (fun _ => ?_) (fun z => absurd z (nI_n1 (by omega)))
                refine x_iload dX11_turn_137 rfl ?_
                refine x_if_ne (tgt := 154) dX11_turn_139 (by decide) (fun h139 => ?_) (fun h139 => ?_)
                · refine x_aload_n dX11_turn_154 rfl rfl ?_
                  refine x_getf dX11_turn_155 lf_X11_51 (kc hi kf_0) kv_0_10 ?_
                  refine x_iload dX11_turn_158 rfl ?_
                  refine x_cV1 dX11_turn_160 lv_X11_364 (kc hi kf_10) rfl rfl rfl  (c_X10_chanceAt (a := A) (q := q) (m := m + 1) hi ht hNl hmB hbd.1 hbd.2.1 ?_)
                  exact x_ireturn dX11_turn_163 rfl rfl (by
first
| (rw [if_neg (fun z => z.elim hdn h139), te1] at hq3; exact hq3)
| (rw [if_pos (Or.inr h139), te2] at hq3; exact hq3))
                · refine x_aload_n dX11_turn_142 rfl rfl ?_
                  refine x_getf dX11_turn_143 lf_X11_51 (kc hi kf_0) kv_0_10 ?_
                  refine x_iload dX11_turn_146 rfl ?_
                  refine x_cV1 dX11_turn_148 lv_X11_361 (kc hi kf_10) rfl rfl rfl  (c_X10_dayAt (a := A) (q := q) (m := m + 1) hi ht hNl hbd.1 hbd.2.1 ?_)
                  refine x_goto (tgt := 163) dX11_turn_151 (by decide) ?_
                  exact x_ireturn dX11_turn_163 rfl rfl (by
first
| (rw [if_neg (fun z => z.elim hdn h139), te1] at hq3; exact hq3)
| (rw [if_pos (Or.inr h139), te2] at hq3; exact hq3))
            have H : ∀ f i κ', i + f = cn σ 16 → KT κ κ' → TrI σ κ' (tAN σ A q i (m + 1)) → XJ G (d + 4) (0, 0) MX11_turn (cm τ κ' Md) [(0, .ref (τ 0)), (1, .int (nI A)), (2, .int (nI (A + m))), (3, .int q), (4, .int what), (5, .int (nI i))] [] 49 Q := by
              intro f
              induction f with
              | zero =>
                intro i κ' hif hk ht
                obtain rfl : i = cn σ 16 := by omega
                rw [tAN_eq] at ht
                refine x_iload dX11_turn_49 rfl ?_
                refine x_aload_n dX11_turn_51 rfl rfl ?_
                refine x_getf dX11_turn_52 lf_X11_16 (kc hi kf_0) kv_0_2 ?_
                refine x_cV0 dX11_turn_55 lv_X11_100 (hD.lc 2 li_2) rfl rfl rfl (c_lsz_2 hD ?_)
                refine x_icmp_ge (tgt := 120) dX11_turn_58 (by decide) (fun _ => ?_) (fun z => absurd (loopT rfl) z)
                refine x_loc _ (?_ : lle _ _) (F κ' hk ht)
                exact ⟨rfl, rfl, trivial⟩
              | succ f ih =>
                intro i κ' hif hk ht
                have hlt : i < cn σ 16 := by omega
                have hst : ∀ κ2, KT κ κ2 → TrI σ κ2 (tAN σ A q (i + 1) (m + 1)) → XJ G (d + 4) (0, 0) MX11_turn (cm τ κ2 Md) [(0, .ref (τ 0)), (1, .int (nI A)), (2, .int (nI (A + m))), (3, .int q), (4, .int what), (5, .int (nI i))] [] 114 Q := by
                  intro κ2 hk2 ht2
                  refine x_iinc (c := 1) dX11_turn_114 rfl (by decide) ?_
                  refine x_goto (tgt := 49) dX11_turn_117 (by decide) ?_
                  refine x_loc _ (?_ : lle _ _) (ih (i + 1) κ2 (by omega) hk2 ht2)
                  refine ⟨rfl, rfl, rfl, rfl, rfl, ?_, trivial⟩
                  show some (Value.int (nI i + 1)) = some (Value.int (nI (i + 1)))
                  rw [nI_1]
                have hlen := tAN_le σ A q (m + 1) ha5 i
                have hno : ¬ (σ.2 14 i ≤ q ∧ nI A ≤ σ.2 9 i ∧ σ.2 9 i ≤ nI (A + m)) → tAN σ A q (i + 1) (m + 1) = tAN σ A q i (m + 1) := fun z => tAN_no (m + 1) (fun e he y => z ⟨y.2, by rw [y.1]; exact nI_le (by omega) (by omega), by rw [y.1]; exact nI_le (by omega) (by omega)⟩)
                refine x_iload dX11_turn_49 rfl ?_
                refine x_aload_n dX11_turn_51 rfl rfl ?_
                refine x_getf dX11_turn_52 lf_X11_16 (kc hi kf_0) kv_0_2 ?_
                refine x_cV0 dX11_turn_55 lv_X11_100 (hD.lc 2 li_2) rfl rfl rfl (c_lsz_2 hD ?_)
                refine x_icmp_ge (tgt := 120) dX11_turn_58 (by decide) (fun z => absurd z (loopF rfl hlt (by omega))) (fun _ => ?_)
                refine x_aload_n dX11_turn_61 rfl rfl ?_
                refine x_getf dX11_turn_62 lf_X11_16 (kc hi kf_0) kv_0_2 ?_
                refine x_iload dX11_turn_65 rfl ?_
                refine x_cV1 dX11_turn_67 lv_X11_126 (hD.lc 2 li_2) rfl rfl rfl (c_lget (k := 2) hD li_2 hlt ?_)
                refine x_cast (q := (_, _, _)) dX11_turn_70 (show vwCl[2]? = some _ from rfl) tb367 (ob_2 hD hlt) ?_
                refine x_astore dX11_turn_73 (by decide) ?_
                refine x_aload dX11_turn_75 rfl ?_
                refine x_getf dX11_turn_77 lf_X11_315 (ob_2 hD hlt) ov_2_6 ?_
                refine x_iload_n dX11_turn_80 rfl rfl ?_
                refine x_icmp_gt (tgt := 114) dX11_turn_81 (by decide) (fun h81 => ?_) (fun h81 => ?_)
                · refine x_loc _ (?_ : lle _ _) (hst κ' hk (by
                    rw [hno (fun z => by first | exact absurd z.1 (Int32.not_le.mpr h81) | exact h94 z.2)]; exact ht))
                  exact ⟨rfl, rfl, rfl, rfl, rfl, rfl, trivial⟩
                · refine x_aload dX11_turn_84 rfl ?_
                  refine x_getf dX11_turn_86 lf_X11_238 (ob_2 hD hlt) ov_2_1 ?_
                  refine x_iload_n dX11_turn_89 rfl rfl ?_
                  refine x_iload_n dX11_turn_90 rfl rfl ?_
                  refine x_cS3 dX11_turn_91 ls_X11_92 rfl  (c_X11_isWithin ?_)
                  refine x_if_eq_b (tgt := 114) dX11_turn_94 (by decide) (fun h94 => ?_) (fun h94 => ?_)
                  · refine x_loc _ (?_ : lle _ _) (hst κ' hk (by
                      rw [hno (fun z => by first | exact absurd z.1 (Int32.not_le.mpr h81) | exact h94 z.2)]; exact ht))
                    exact ⟨rfl, rfl, rfl, rfl, rfl, rfl, trivial⟩
                  · obtain ⟨e, he, hde⟩ := of_le (n := A + m) (Int32.le_trans (nI_pos' (by omega)) h94.1) h94.2 rfl (by omega)
                    have hAe : A ≤ e := by
                      have := h94.1
                      rw [hde] at this
                      exact (nI_leI (by omega) (by omega)).mp this
                    have hyes := tAN_yes (σ := σ) (a := A) (q := q) (n := i) (i0 := e - A) (m := m + 1) (by rw [hde]; congr 1; omega) (Int32.not_lt.mp h81) (by omega) ha5
                    refine x_aload_n dX11_turn_97 rfl rfl ?_
                    refine x_getf dX11_turn_98 lf_X11_51 (kc hi kf_0) kv_0_10 ?_
                    refine x_aload dX11_turn_101 rfl ?_
                    refine x_getf dX11_turn_103 lf_X11_238 (ob_2 hD hlt) ov_2_1 ?_
                    refine x_aload dX11_turn_106 rfl ?_
                    refine x_getf dX11_turn_108 lf_X11_250 (ob_2 hD hlt) ov_2_3 ?_
                    refine x_cV2 dX11_turn_111 lv_X11_355 (kc hi kf_10) rfl rfl rfl  (c_X10_add (σ := σ) (L := tAN σ A q i (m + 1)) (x := i) hi (fun y hy => hmem i y hy (by omega)) (hLB i hlt).1 (by omega) ht ?_)
                    intro κ2 hk2 ht2
                    refine x_loc _ (?_ : lle _ _) (hst κ2 (hk.tr hk2) (by rw [hyes]; exact ht2))
                    exact ⟨rfl, rfl, rfl, rfl, rfl, rfl, trivial⟩
            have h00 : tAN σ A q 0 (m + 1) = [] := List.eq_nil_of_length_eq_zero (by have := tAN_le σ A q (m + 1) ha5 0; omega)
            refine x_iconst (v := 0) dX11_turn_46 (by decide) ?_
            refine x_istore dX11_turn_47 (by decide) ?_
            refine x_loc _ (?_ : lle _ _) (H (cn σ 16) 0 κ0 (by omega) hk0 (by rw [h00]; exact ht0))
            exact ⟨rfl, rfl, rfl, rfl, rfl, rfl, trivial⟩
          · refine x_iconst (v := -1) dX11_turn_37 (by decide) ?_
            exact x_ireturn dX11_turn_38 rfl rfl (fan_f (hq κ KT.rf) (fun z => by first | exact h4 z.1 | exact h11 z.2.1 | exact absurd z.2.2.1 (Int32.not_lt.mpr h16) | exact h24 z.2.2.2.1 | exact h34 z.2.2.2.2))
end CLH
