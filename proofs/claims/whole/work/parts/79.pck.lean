/-! the class, 27: what a digest takes -/
def Srt (key : Nat → Int32) (L : List Nat) : Prop := ∀ a b, a ≤ b → b < L.length → key (L.getD b 0) ≤ key (L.getD a 0)
theorem posF_hi (key : Nat → Int32) (x : Nat) (L : List Nat) : ∀ j k, posF key x L j ≤ k → k < j → key (L.getD k 0) < key x
  | 0, _, _, h => absurd h (Nat.not_lt_zero _)
  | j + 1, k, h1, h2 => by
    unfold posF at h1
    by_cases z : key (L.getD j 0) < key x
    · rw [if_pos z] at h1
      by_cases e : k = j
      · subst e; exact z
      · exact posF_hi key x L j k h1 (by omega)
    · rw [if_neg z] at h1; omega
theorem posF_lo (key : Nat → Int32) (x : Nat) (L : List Nat) : ∀ j, posF key x L j = 0 ∨ ¬ key (L.getD (posF key x L j - 1) 0) < key x
  | 0 => Or.inl rfl
  | j + 1 => by
    unfold posF
    by_cases z : key (L.getD j 0) < key x
    · rw [if_pos z]; exact posF_lo key x L j
    · rw [if_neg z]; exact Or.inr z
theorem posF_un (key : Nat → Int32) (x : Nat) (L : List Nat) : ∀ j t, t ≤ j → (∀ k, t ≤ k → k < j → key (L.getD k 0) < key x) → (t = 0 ∨ ¬ key (L.getD (t - 1) 0) < key x) → posF key x L j = t
  | 0, t, h, _, _ => by
    have : t = 0 := by omega
    subst this; rfl
  | j + 1, t, h, h1, h2 => by
    unfold posF
    by_cases e : t = j + 1
    · subst e
      rcases h2 with h2 | h2
      · omega
      · rw [if_neg (by rw [show j = j + 1 - 1 by omega]; exact h2)]
    · rw [if_pos (h1 j (by omega) (by omega))]
      exact posF_un key x L j t (by omega) (fun k a b => h1 k a (by omega)) h2
theorem posF_min {key : Nat → Int32} {x : Nat} {L : List Nat} (hs : Srt key L) {j : Nat} (hj : j ≤ L.length) : posF key x L j = min j (posF key x L L.length) := by
  have hp := posF_le key x L L.length
  rcases Nat.lt_or_ge (posF key x L L.length) j with y | y
  · rw [Nat.min_eq_right (by omega)]
    exact posF_un key x L j _ (by omega) (fun k a b => posF_hi key x L L.length k a (by omega)) (posF_lo key x L L.length)
  · rw [Nat.min_eq_left y]
    refine posF_un key x L j j (Nat.le_refl _) (fun k a b => by omega) ?_
    rcases posF_lo key x L L.length with z | z
    · exact Or.inl (by omega)
    · rcases Nat.eq_zero_or_pos j with w | w
      · exact Or.inl w
      · exact Or.inr (fun h => z (Int32.lt_of_le_of_lt (hs (j - 1) (posF key x L L.length - 1) (by omega) (by omega)) h))
theorem Srt_ins {key : Nat → Int32} {x : Nat} {L : List Nat} (hs : Srt key L) : Srt key (insB key x L) := by
  intro a b hab hb
  rw [insB_len] at hb
  have hp := posF_le key x L L.length
  have hlo := posF_lo key x L L.length
  have hhi := posF_hi key x L L.length
  rw [insB_get _ _ _ (by omega), insB_get _ _ _ (by omega)]
  by_cases b1 : b < posF key x L L.length
  · rw [if_pos b1, if_pos (by omega)]
    exact hs a b hab (by omega)
  · by_cases b2 : b = posF key x L L.length
    · rw [if_neg b1, if_pos b2]
      by_cases a1 : a < posF key x L L.length
      · rw [if_pos a1]
        rcases hlo with z | z
        · omega
        · exact Int32.le_trans (Int32.not_lt.mp z) (hs a (posF key x L L.length - 1) (by omega) (by omega))
      · rw [if_neg a1, if_pos (by omega)]; exact Int32.le_refl _
    · rw [if_neg b1, if_neg b2]
      by_cases a1 : a < posF key x L L.length
      · rw [if_pos a1]; exact hs a (b - 1) (by omega) (by omega)
      · rw [if_neg a1]
        by_cases a2 : a = posF key x L L.length
        · rw [if_pos a2]; exact Int32.le_of_lt (hhi (b - 1) (by omega) (by omega))
        · rw [if_neg a2]; exact hs (a - 1) (b - 1) (by omega) (by omega)
theorem digS_srt (σ : MS) (of day rank q : Int32) : ∀ n, Srt (keyM σ) (digS σ of day rank q n).1
  | 0 => fun a b _ hb => absurd hb (Nat.not_lt_zero _)
  | n + 1 => by
    have h := digS_srt σ of day rank q n
    rw [digS_s]
    by_cases z : σ.2 9 n = of ∧ σ.2 14 n ≤ q
    · rw [cI_t z]
      by_cases y : shw σ n day rank q
      · rw [cI_t y]; exact Srt_ins h
      · rw [cI_f y]; exact h
    · rw [cI_f z]; exact h
theorem digS_2 (σ : MS) (of day rank q : Int32) : ∀ n, (digS σ of day rank q n).2 = spCnt σ of q n
  | 0 => rfl
  | n + 1 => by
    have es : spCnt σ of q (n + 1) = if σ.2 9 n = of ∧ σ.2 14 n ≤ q then spCnt σ of q n + 1 else spCnt σ of q n := rfl
    rw [digS_s, es]
    by_cases z : σ.2 9 n = of ∧ σ.2 14 n ≤ q
    · rw [cI_t z, if_pos z, ← digS_2 σ of day rank q n]
    · rw [cI_f z, if_neg z, digS_2 σ of day rank q n]
/-- scratch of a digest -/
def KD (κ κ' : MS) : Prop := (∀ k, ¬ k = 141 → κ'.1 k = κ.1 k) ∧ ∀ r, ¬ r = 13 → ¬ r = 19 → ¬ r = 15 → κ'.2 r = κ.2 r
theorem KD.rf {κ : MS} : KD κ κ := ⟨fun _ _ => rfl, fun _ _ _ _ => rfl⟩
theorem KD.tr {a b c : MS} (h1 : KD a b) (h2 : KD b c) : KD a c := ⟨fun k x => (h2.1 k x).trans (h1.1 k x), fun r x y z => (h2.2 r x y z).trans (h1.2 r x y z)⟩
theorem KD.x {κ κ' : MS} (h : KX κ κ') : KD κ κ' := ⟨h.1, fun r x y _ => h.2 r x y⟩
theorem KD.a {κ κ' : MS} {i : Nat} {v : Int32} (h : KD κ κ') : KD κ (seta κ' 15 i v) := ⟨h.1, fun r x y z => (seta_ne z).trans (h.2 r x y z)⟩
theorem Kap_KD {σ κ κ' : MS} (h : KD κ κ') (hK : Kap σ κ) : Kap σ κ' := by
  obtain ⟨h1, h2, h3, ⟨t1, t2, t3, t4⟩, h5⟩ := hK
  unfold Kap TabK
  rw [h.1 0 (by decide), h.1 81 (by decide), h.1 92 (by decide), h.1 95 (by decide), h.2 17 (by decide) (by decide) (by decide), h.2 20 (by decide) (by decide) (by decide), h.2 21 (by decide) (by decide) (by decide), h.2 22 (by decide) (by decide) (by decide), h.2 23 (by decide) (by decide) (by decide)]
  exact ⟨h1, h2, h3, ⟨t1, t2, t3, t4⟩, fun p s hp hs => by rw [h.2 (30 + p) (by omega) (by omega) (by omega)]; exact h5 p s hp hs⟩
theorem Wld_KD {G : Gam} {τ : Nat → Nat} {ω : Nat → Nat → Nat} {ε : Nat → Nat} {σ κ κ' : MS} {Md : Mem} (h : KD κ κ') (hW : Wld G τ ω ε σ κ Md) : Wld G τ ω ε σ κ' Md := ⟨hW.1, hW.2.1, hW.2.2.1, Kap_KD h hW.2.2.2⟩
section PCK
variable {G : Gam} {d : Nat} {τ : Nat → Nat} {ω : Nat → Nat → Nat} {ε : Nat → Nat} {σ κ : MS} {Md : Mem} {M : Mem} {Q : Option Value → Mem → Prop} {k : Nat}
theorem ins_find {L : List Nat} {x n0 m : Nat} {s : Int32} (hW : Wld G τ ω ε σ κ Md) (hn : n0 ≤ 20) (hn2 : n0 ≤ L.length) (hL : ∀ y ∈ L, y < cn σ 16) (hs : s = keyM σ x) (hrow : ∀ k, k < n0 → κ.2 15 k = nI (L.getD k 0))
    (K : XJ G (d + 4) (0, 0) MX11_insertPick (cm τ κ Md) [(0, .ref (τ 0)), (1, .int (nI x)), (2, .int (nI n0)), (3, .int (nI m)), (4, .int s), (5, .int (nI (posF (keyM σ) x L n0)))] [] 55 Q) :
    ∀ j, j ≤ n0 → posF (keyM σ) x L n0 = posF (keyM σ) x L j → XJ G (d + 4) (0, 0) MX11_insertPick (cm τ κ Md) [(0, .ref (τ 0)), (1, .int (nI x)), (2, .int (nI n0)), (3, .int (nI m)), (4, .int s), (5, .int (nI j))] [] 26 Q := by
  have hW0 := hW
  obtain ⟨hi, hc, hD, hK⟩ := hW
  intro j
  induction j with
  | zero =>
    intro hj hp
    refine x_iload dX11_insertPick_26 rfl ?_
    refine x_if_le (tgt := 55) dX11_insertPick_28 (by decide) (fun _ => ?_) (fun z => absurd (by decide) z)
    refine x_loc _ (?_ : lle _ _) K
    refine ⟨rfl, rfl, rfl, rfl, rfl, ?_, trivial⟩
    rw [hp]; rfl
  | succ j ih =>
    intro hj hp
    have hLj := getD_lt hL (show j < L.length by omega)
    have hin : vp_in (nI j) 20 := vp_in_nI (by omega) (by decide)
    have hcl : (nI j).toNatClampNeg = j := nI_clamp (by omega)
    have hrj := hrow j (by omega)
    refine x_iload dX11_insertPick_26 rfl ?_
    refine x_if_le (tgt := 55) dX11_insertPick_28 (by decide) (fun z => absurd z (nI_nle (by omega) (by omega))) (fun _ => ?_)
    refine x_aload_n dX11_insertPick_31 rfl rfl ?_
    refine x_aload_n dX11_insertPick_32 rfl rfl ?_
    refine x_getf dX11_insertPick_33 lf_X11_82 (kc hi kf_0) kv_0_15 ?_
    refine x_iload dX11_insertPick_36 rfl ?_
    refine x_iconst (v := 1) dX11_insertPick_38 (by decide) ?_
    refine x_isub dX11_insertPick_39 ?_
    rw [nI_pred]
    refine xk_iald 15 dX11_insertPick_40 kf_15 rfl hi hin hcl ?_
    rw [hrj]
    refine x_cV1 dX11_insertPick_41 lv_X11_282 (kc hi kf_0) rfl rfl rfl  (c_X11_strengthOf hW0 hLj ?_)
    refine x_iload dX11_insertPick_44 rfl ?_
    refine x_icmp_ge (tgt := 55) dX11_insertPick_46 (by decide) (fun h46 => ?_) (fun h46 => ?_)
    · refine x_loc _ (?_ : lle _ _) K
      refine ⟨rfl, rfl, rfl, rfl, rfl, ?_, trivial⟩
      rw [hp]
      unfold posF
      rw [if_neg (by rw [← hs]; exact Int32.not_lt.mpr h46)]
      rfl
    · refine x_iinc (c := -1) dX11_insertPick_49 rfl (by decide) ?_
      refine x_goto (tgt := 26) dX11_insertPick_52 (by decide) ?_
      refine x_loc _ (?_ : lle _ _) (ih (by omega) (hp.trans ?_))
      · refine ⟨rfl, rfl, rfl, rfl, rfl, ?_, trivial⟩
        show some (Value.int (nI (j + 1) + -1)) = some (Value.int (nI j))
        rw [← Int32.sub_eq_add_neg, nI_pred]
      · show (if keyM σ (L.getD j 0) < keyM σ x then _ else _) = _
        rw [if_pos (by rw [← hs]; exact Int32.not_le.mp h46)]
theorem ins_shift {L : List Nat} {x s p n0 : Nat} {i2 i3 i4 : Int32} (hi : adOK τ) (hs : s ≤ 20) (hps : p < s) (hn0 : s ≤ n0 + 1)
    (K : ∀ κ', KD κ κ' → (∀ k, k < s → κ'.2 15 k = nI (if k < p then L.getD k 0 else if k = p then x else L.getD (k - 1) 0)) → Q (some (.int (nI s))) (cm τ κ' Md)) :
    ∀ f κ1, p + f < s → KD κ κ1 → (∀ k, k ≤ p + f → k < n0 → κ1.2 15 k = nI (L.getD k 0)) → (∀ k, p + f < k → k < s → κ1.2 15 k = nI (L.getD (k - 1) 0)) → XJ G (d + 4) (0, 0) MX11_insertPick (cm τ κ1 Md) [(0, .ref (τ 0)), (1, .int (nI x)), (2, .int i2), (3, .int i3), (4, .int i4), (5, .int (nI p)), (6, .int (nI s)), (7, .int (nI (p + f)))] [] 83 Q := by
  intro f
  induction f with
  | zero =>
    intro κ1 hf hk h1 h2
    refine x_iload dX11_insertPick_83 rfl ?_
    refine x_iload dX11_insertPick_85 rfl ?_
    refine x_icmp_le (tgt := 112) dX11_insertPick_87 (by decide) (fun _ => ?_) (fun z => absurd (Int32.le_refl _) z)
    refine x_aload_n dX11_insertPick_112 rfl rfl ?_
    refine x_getf dX11_insertPick_113 lf_X11_82 (kc hi kf_0) kv_0_15 ?_
    refine x_iload dX11_insertPick_116 rfl ?_
    refine x_iload_n dX11_insertPick_118 rfl rfl ?_
    refine xk_iast 15 dX11_insertPick_119 kf_15 rfl hi (vp_in_nI (by omega) (by decide)) (nI_clamp (by omega)) ?_
    refine x_iload dX11_insertPick_120 rfl ?_
    exact x_ireturn dX11_insertPick_122 rfl rfl (K _ hk.a (fun k hk2 => by
rw [seta_eq]
by_cases z : k = p
· subst z; rw [updB_eq, if_neg (Nat.lt_irrefl _), if_pos rfl]
· rw [updB_ne z]
  by_cases y : k < p
  · rw [if_pos y]; exact h1 k (by omega) (by omega)
  · rw [if_neg y, if_neg z]; exact h2 k (by omega) hk2))
  | succ f ih =>
    intro κ1 hf hk h1 h2
    have hr := h1 (p + f) (by omega) (by omega)
    refine x_iload dX11_insertPick_83 rfl ?_
    refine x_iload dX11_insertPick_85 rfl ?_
    refine x_icmp_le (tgt := 112) dX11_insertPick_87 (by decide) (fun z => absurd z (Int32.not_le.mpr ((nI_ltI (by omega) (by omega)).mpr (by omega)))) (fun _ => ?_)
    refine x_aload_n dX11_insertPick_90 rfl rfl ?_
    refine x_getf dX11_insertPick_91 lf_X11_82 (kc hi kf_0) kv_0_15 ?_
    refine x_iload dX11_insertPick_94 rfl ?_
    refine x_aload_n dX11_insertPick_96 rfl rfl ?_
    refine x_getf dX11_insertPick_97 lf_X11_82 (kc hi kf_0) kv_0_15 ?_
    refine x_iload dX11_insertPick_100 rfl ?_
    refine x_iconst (v := 1) dX11_insertPick_102 (by decide) ?_
    refine x_isub dX11_insertPick_103 ?_
    rw [show p + (f + 1) = (p + f) + 1 from rfl, nI_pred]
    refine xk_iald 15 dX11_insertPick_104 kf_15 rfl hi (vp_in_nI (by omega) (by decide)) (nI_clamp (by omega)) ?_
    rw [hr]
    refine xk_iast 15 dX11_insertPick_105 kf_15 rfl hi (vp_in_nI (by omega) (by decide)) (nI_clamp (by omega)) ?_
    refine x_iinc (c := -1) dX11_insertPick_106 rfl (by decide) ?_
    refine x_goto (tgt := 83) dX11_insertPick_109 (by decide) ?_
    refine x_loc _ (?_ : lle _ _) (ih _ (by omega) hk.a (fun k a b => ?_) (fun k a b => ?_))
    · refine ⟨rfl, rfl, rfl, rfl, rfl, rfl, rfl, ?_, trivial⟩
      show some (Value.int (nI (p + f + 1) + -1)) = some (Value.int (nI (p + f)))
      rw [← Int32.sub_eq_add_neg, nI_pred]
    · rw [seta_eq, updB_ne (by omega)]; exact h1 k (by omega) b
    · rw [seta_eq]
      by_cases z : k = p + f + 1
      · subst z; rw [updB_eq]; rfl
      · rw [updB_ne z]; exact h2 k (by omega) b
theorem c_X11_insertPick {L : List Nat} {x m : Nat} (hW : Wld G τ ω ε σ κ Md) (hm : m ≤ 20) (hx : x < cn σ 16) (hL : ∀ y ∈ L, y < cn σ 16) (hs : Srt (keyM σ) L) (hrow : ∀ k, k < min m L.length → κ.2 15 k = nI (L.getD k 0))
    (hq : ∀ κ', KD κ κ' → (∀ k, k < min m (insB (keyM σ) x L).length → κ'.2 15 k = nI ((insB (keyM σ) x L).getD k 0)) → Q (some (.int (nI (min m (insB (keyM σ) x L).length)))) (cm τ κ' Md)) : CT G (d + 4) (0, 0) MX11_insertPick [.ref (τ 0), .int (nI x), .int (nI (min m L.length)), .int (nI m)] (cm τ κ Md) Q := by
  have hW0 := hW
  obtain ⟨hi, hc, hD, hK⟩ := hW
  have hpm := posF_min (x := x) hs (Nat.min_le_right m L.length)
  have hp := posF_le (keyM σ) x L L.length
  rw [insB_len] at hq
  refine CT.of rfl (Nat.le_of_ble_eq_true rfl) ?_
  have hK2 : posF (keyM σ) x L (min m L.length) < m → XJ G (d + 4) (0, 0) MX11_insertPick (cm τ κ Md) [(0, .ref (τ 0)), (1, .int (nI x)), (2, .int (nI (min m L.length))), (3, .int (nI m)), (4, .int (keyM σ x)), (5, .int (nI (posF (keyM σ) x L (min m L.length))))] [.int (nI (min m (L.length + 1)))] 75 Q := by
    intro hlt
    have hpp : posF (keyM σ) x L (min m L.length) = posF (keyM σ) x L L.length := by omega
    rw [hpp] at hlt ⊢
    obtain ⟨s', hs'⟩ : ∃ s', min m (L.length + 1) = s' + 1 := ⟨min m (L.length + 1) - 1, by omega⟩
    have hsh := ins_shift (G := G) (d := d) (τ := τ) (κ := κ) (Md := Md) (Q := Q) (L := L) (x := x) (s := s' + 1) (p := posF (keyM σ) x L L.length) (n0 := min m L.length) (i2 := nI (min m L.length)) (i3 := nI m) (i4 := keyM σ x) hi (by omega) (by omega) (by omega) (fun κ' a b => ?_) (s' - posF (keyM σ) x L L.length) κ (by omega) KD.rf (fun k a b => hrow k b) (fun k a b => by omega)
    · rw [show posF (keyM σ) x L L.length + (s' - posF (keyM σ) x L L.length) = s' by omega] at hsh
      rw [hs']
      refine x_istore dX11_insertPick_75 (by decide) ?_
      refine x_iload dX11_insertPick_77 rfl ?_
      refine x_iconst (v := 1) dX11_insertPick_79 (by decide) ?_
      refine x_isub dX11_insertPick_80 ?_
      rw [nI_pred]
      refine x_istore dX11_insertPick_81 (by decide) ?_
      refine x_loc _ (?_ : lle _ _) hsh
      exact ⟨rfl, rfl, rfl, rfl, rfl, rfl, rfl, rfl, trivial⟩
    · have h := hq κ' a (fun k hk => by rw [b k (by omega), insB_get _ _ _ (by omega)])
      rw [hs'] at h
      exact h
  have hm20 : nI m ≤ 20 := by
    rcases Nat.lt_or_ge m 20 with y | y
    · exact Int32.le_of_lt ((nI_ltI (b := 20) (by omega) (by decide)).mpr y)
    · rw [show m = 20 by omega]; exact Int32.le_refl _
  refine x_iload_n dX11_insertPick_0 rfl rfl ?_
  refine x_aload_n dX11_insertPick_1 rfl rfl ?_
  refine x_getf dX11_insertPick_2 lf_X11_82 (kc hi kf_0) kv_0_15 ?_
  refine x_alen dX11_insertPick_5 (by decide) (by decide) (kc hi kf_15) ?_
  refine x_icmp_gt (tgt := 14) dX11_insertPick_6 (by decide) (fun z => absurd z (Int32.not_lt.mpr hm20)) (fun _ => ?_)
  refine x_iload_n dX11_insertPick_9 rfl rfl ?_
  refine x_iload_n dX11_insertPick_10 rfl rfl ?_
  refine x_icmp_le (tgt := 16) dX11_insertPick_11 (by decide) (fun _ => ?_) (fun z => absurd (nI_le (Nat.min_le_left m L.length) (by omega)) z)
  refine x_aload_n dX11_insertPick_16 rfl rfl ?_
  refine x_iload_n dX11_insertPick_17 rfl rfl ?_
  refine x_cV1 dX11_insertPick_18 lv_X11_282 (kc hi kf_0) rfl rfl rfl  (c_X11_strengthOf hW0 hx ?_)
  refine x_istore dX11_insertPick_21 (by decide) ?_
  refine x_iload_n dX11_insertPick_23 rfl rfl ?_
  refine x_istore dX11_insertPick_24 (by decide) ?_
  refine x_loc _ (?_ : lle _ _) (ins_find (d := d) (L := L) (x := x) (n0 := min m L.length) (m := m) (s := keyM σ x) hW0 (by omega) (by omega) hL rfl hrow ?_ (min m L.length) (Nat.le_refl _) rfl)
  · exact ⟨rfl, rfl, rfl, rfl, rfl, rfl, trivial⟩
  · refine x_iload dX11_insertPick_55 rfl ?_
    refine x_iload_n dX11_insertPick_57 rfl rfl ?_
    refine x_icmp_lt (tgt := 63) dX11_insertPick_58 (by decide) (fun h58 => ?_) (fun h58 => ?_)
    · refine x_iload_n dX11_insertPick_63 rfl rfl ?_
      refine x_iload_n dX11_insertPick_64 rfl rfl ?_
      refine x_icmp_ge (tgt := 74) dX11_insertPick_65 (by decide) (fun h65 => ?_) (fun h65 => ?_)
      · refine x_iload_n dX11_insertPick_74 rfl rfl ?_
        have hlt : posF (keyM σ) x L (min m L.length) < m := (nI_ltI (by omega) (by omega)).mp h58
        have h := hK2 hlt
        first
        | (have h6 : ¬ min m L.length < m := fun z => absurd ((nI_ltI (by omega) (by omega)).mpr z) (Int32.not_lt.mpr h65)
           rw [show min m (L.length + 1) = min m L.length by omega] at h
           exact h)
        | (have h6 : min m L.length < m := (nI_ltI (by omega) (by omega)).mp (Int32.not_le.mp h65)
           rw [show min m (L.length + 1) = min m L.length + 1 by omega, ← nI_1] at h
           exact h)
      · refine x_iload_n dX11_insertPick_68 rfl rfl ?_
        refine x_iconst (v := 1) dX11_insertPick_69 (by decide) ?_
        refine x_iadd dX11_insertPick_70 ?_
        refine x_goto (tgt := 75) dX11_insertPick_71 (by decide) ?_
        have hlt : posF (keyM σ) x L (min m L.length) < m := (nI_ltI (by omega) (by omega)).mp h58
        have h := hK2 hlt
        first
        | (have h6 : ¬ min m L.length < m := fun z => absurd ((nI_ltI (by omega) (by omega)).mpr z) (Int32.not_lt.mpr h65)
           rw [show min m (L.length + 1) = min m L.length by omega] at h
           exact h)
        | (have h6 : min m L.length < m := (nI_ltI (by omega) (by omega)).mp (Int32.not_le.mp h65)
           rw [show min m (L.length + 1) = min m L.length + 1 by omega, ← nI_1] at h
           exact h)
    · have hge : ¬ posF (keyM σ) x L (min m L.length) < m := fun z => h58 ((nI_ltI (by omega) (by omega)).mpr z)
      refine x_iload_n dX11_insertPick_61 rfl rfl ?_
      exact x_ireturn dX11_insertPick_62 rfl rfl ((by
have h := hq κ KD.rf (fun k hk => by rw [hrow k (by omega), insB_get _ _ _ (by omega), if_pos (by omega)])
rw [show min m (L.length + 1) = min m L.length by omega] at h
exact h))
end PCK
