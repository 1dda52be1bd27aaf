/-! the class, 4: ways, hiding, buying -/
section OLD2
variable {G : Gam} {d : Nat} {k : Nat × Nat} {Y : MR} {M : Mem} {lv : Lv} {st : List Value} {pc : Nat} {Q : Option Value → Mem → Prop}
theorem x_oiald {n a : Nat} {f : Nat → Value} {i : Int32} {v : Value} (hd : decode Y.2.1 pc = .ok (.iaload, 1)) (hT : OldT G .int a n f) (hin : vp_in i n) (hv : f i.toNatClampNeg = v) (kk : XJ G d k Y M lv (v :: st) (pc + 1) Q) : XJ G d k Y M lv (.int i :: .ref a :: st) pc Q :=
  fun p e R s m args below meth c H locs cells slots A ls hC hH hl => va_ti hC.2.1 hC.2.2.1 (hC.oT hT) hH.2.2.1 hin hv hd (kk p e R s m args below meth c H locs cells slots A ls hC hH hl)
end OLD2
/-- the sets to hide in the order wanted -/
def hidO : List Int32 := [0, 1, 2, 4, 3, 5, 6, 7]
def ZHid (G : Gam) : Prop := ∃ a : Nat, OldZ G "DiaryHouse" "HIDING_ORDER" "[I" (.ref a) ∧ OldT G .int a 8 (fun j => .int (hidO.getD j 0))
/-- all have enough alike if these are hidden -/
def hidA (σ : MS) (m : Int32) (j : Nat) : Prop := allA σ m (7 &&& (nI j ^^^ -1)) (cn σ 15)
theorem spHide_s (σ : MS) (m : Int32) (i : Nat) : spHide σ m (i + 1) = cI (hidA σ m i ∧ (spHide σ m i = -1 ∨ bitc (nI i) < bitc (spHide σ m i))) (nI i) (spHide σ m i) := rfl
theorem hide_min (σ : MS) (m : Int32) : ∀ n, n ≤ 8 → (spHide σ m n = -1 ∧ ∀ j, j < n → ¬ hidA σ m j) ∨ ∃ b, b < n ∧ spHide σ m n = nI b ∧ hidA σ m b ∧ ∀ j, j < n → hidA σ m j → bitc (nI b) ≤ bitc (nI j) ∧ (j < b → bitc (nI b) < bitc (nI j))
  | 0, _ => Or.inl ⟨rfl, fun j hj => absurd hj (Nat.not_lt_zero j)⟩
  | n + 1, hn => by
    rcases hide_min σ m n (by omega) with ⟨h1, h2⟩ | ⟨b, hb, h1, h2, h3⟩
    · rw [spHide_s]
      by_cases z : hidA σ m n
      · rw [cI_t ⟨z, Or.inl h1⟩]
        refine Or.inr ⟨n, by omega, rfl, z, fun j hj hA => ?_⟩
        by_cases e : j = n
        · subst e; exact ⟨Int32.le_refl _, fun y => absurd y (Nat.lt_irrefl _)⟩
        · exact absurd hA (h2 j (by omega))
      · rw [cI_f (fun y => z y.1)]
        refine Or.inl ⟨h1, fun j hj => ?_⟩
        by_cases e : j = n
        · subst e; exact z
        · exact h2 j (by omega)
    · have hne : ¬ nI b = -1 := nI_n1 (by omega)
      rw [spHide_s, h1]
      by_cases z : hidA σ m n ∧ (nI b = -1 ∨ bitc (nI n) < bitc (nI b))
      · rw [cI_t z]
        have zl : bitc (nI n) < bitc (nI b) := z.2.resolve_left hne
        refine Or.inr ⟨n, by omega, rfl, z.1, fun j hj hA => ?_⟩
        by_cases e : j = n
        · subst e; exact ⟨Int32.le_refl _, fun y => absurd y (Nat.lt_irrefl _)⟩
        · have h4 := h3 j (by omega) hA
          exact ⟨Int32.le_of_lt (Int32.lt_of_lt_of_le zl h4.1), fun _ => Int32.lt_of_lt_of_le zl h4.1⟩
      · rw [cI_f z]
        refine Or.inr ⟨b, by omega, rfl, h2, fun j hj hA => ?_⟩
        by_cases e : j = n
        · subst e
          have zl : ¬ bitc (nI j) < bitc (nI b) := fun y => z ⟨hA, Or.inr y⟩
          exact ⟨Int32.not_lt.mp zl, fun y => absurd y (by omega)⟩
        · exact h3 j (by omega) hA
theorem hid_ord : ∀ i, i < 8 → ∀ b, b < 8 → (∀ j, j ≤ i → ¬ hidO.getD j 0 = nI b) → bitc (hidO.getD i 0) < bitc (nI b) ∨ (bitc (hidO.getD i 0) = bitc (nI b) ∧ hidO.getD i 0 < nI b) := by decide +kernel
theorem hid_in : ∀ b, b < 8 → ∃ j, j < 8 ∧ hidO.getD j 0 = nI b := by decide +kernel
theorem hid_nat : ∀ i, i < 8 → ∃ b, b < 8 ∧ hidO.getD i 0 = nI b := by decide +kernel
theorem hid_7 : ∀ b, b < 8 → 7 - nI b = 7 &&& (nI b ^^^ -1) := by decide +kernel
/-- by place in the order -/
def hidP (σ : MS) (m : Int32) (i : Nat) : Prop := allA σ m (7 - hidO.getD i 0) (cn σ 15)
theorem hidP_A {σ : MS} {m : Int32} {i b : Nat} (hb : b < 8) (e : hidO.getD i 0 = nI b) : hidP σ m i ↔ hidA σ m b := by
  unfold hidP hidA
  rw [e, hid_7 b hb]
theorem hide_none {σ : MS} {m : Int32} (h : ∀ j, j < 8 → ¬ hidP σ m j) : spHide σ m 8 = -1 := by
  rcases hide_min σ m 8 (Nat.le_refl _) with ⟨h1, -⟩ | ⟨b, hb, -, h2, -⟩
  · exact h1
  · obtain ⟨j, hj, e⟩ := hid_in b hb
    exact absurd ((hidP_A hb e).mpr h2) (h j hj)
theorem hide_some {σ : MS} {m : Int32} {i : Nat} (hi : i < 8) (h : ∀ j, j < i → ¬ hidP σ m j) (hA : hidP σ m i) : spHide σ m 8 = hidO.getD i 0 := by
  obtain ⟨a, ha, ea⟩ := hid_nat i hi
  have hAa := (hidP_A ha ea).mp hA
  rcases hide_min σ m 8 (Nat.le_refl _) with ⟨-, h2⟩ | ⟨b, hb, h1, h2, h3⟩
  · exact absurd hAa (h2 a ha)
  · rw [h1]
    by_cases e : hidO.getD i 0 = nI b
    · exact e.symm
    · obtain ⟨j, hj, ej⟩ := hid_in b hb
      have hPj := (hidP_A hb ej).mpr h2
      have hno : ∀ j, j ≤ i → ¬ hidO.getD j 0 = nI b := by
        intro j' hj' e'
        by_cases y : j' = i
        · subst y; exact e e'
        · exact h j' (by omega) ((hidP_A hb e').mpr h2)
      have h4 := h3 a ha hAa
      rw [← ea] at h4
      rcases hid_ord i hi b hb hno with y | ⟨y1, y2⟩
      · exact absurd h4.1 (Int32.not_le.mpr y)
      · rw [ea] at y2
        have := h4.2 ((nI_ltI (by omega) (by omega)).mp y2)
        rw [y1] at this
        exact absurd this Int32.lt_irrefl
/-- the questions' prices are within their bounds -/
def QuB (σ : MS) : Prop := ∀ i, i < cn σ 65 → 1 ≤ σ.2 62 i ∧ σ.2 62 i ≤ 50
theorem price_bd {σ : MS} (h : QuB σ) (set : Int32) : ∀ n, n ≤ cn σ 65 → n ≤ 8 → 0 ≤ (spPrice σ set n).toInt ∧ (spPrice σ set n).toInt ≤ 50 * n
  | 0, _, _ => ⟨Int.le_refl 0, Int.le_refl 0⟩
  | n + 1, h1, h2 => by
    obtain ⟨a, b⟩ := price_bd h set n (by omega) (by omega)
    have es : spPrice σ set (n + 1) = if (set >>> (nI n &&& 31)) &&& 1 = 1 then spPrice σ set n + σ.2 62 n else spPrice σ set n := rfl
    obtain ⟨c1, c2⟩ := h n h1
    rw [Int32.le_iff_toInt_le] at c1 c2
    have e1 : (1 : Int32).toInt = 1 := rfl
    have e2 : (50 : Int32).toInt = 50 := rfl
    have e8 : ((2 ^ 32 : Nat) : Int) = 4294967296 := rfl
    rw [es]
    split
    · rw [Int32.toInt_add]
      simp only [Int.bmod, e8]
      constructor <;> (split <;> omega)
    · constructor <;> omega
theorem bitc_bd (x : Int32) : 0 ≤ (bitc x).toInt ∧ (bitc x).toInt ≤ 63 := by
  unfold bitc
  generalize bc5 (bc4 (bc3 (bc2 (bc1 x)))) = y
  have h1 : (y &&& 63).toBitVec.toNat ≤ 63 := by
    rw [Int32.toBitVec_and, BitVec.toNat_and]
    exact Nat.and_le_right
  have h2 : (y &&& 63).toInt = ((y &&& 63).toBitVec.toNat : Int) := BitVec.toInt_eq_toNat_of_lt (by omega)
  rw [h2]
  omega
theorem sub_sg {a b : Int32} (ha : -1000 ≤ a.toInt ∧ a.toInt ≤ 1000) (hb : -1000 ≤ b.toInt ∧ b.toInt ≤ 1000) : (0 < a - b ↔ b < a) ∧ (a - b = 0 ↔ a = b) := by
  have e8 : ((2 ^ 32 : Nat) : Int) = 4294967296 := rfl
  have e : (a - b).toInt = a.toInt - b.toInt := by
    rw [Int32.toInt_sub]
    simp only [Int.bmod, e8]
    split <;> omega
  have e0 : (0 : Int32).toInt = 0 := rfl
  constructor
  · rw [Int32.lt_iff_toInt_lt, Int32.lt_iff_toInt_lt, e, e0]; omega
  · rw [← Int32.toInt_inj, ← Int32.toInt_inj, e, e0]; omega
theorem bett_iff {σ : MS} (h : QuB σ) (hn : cn σ 65 ≤ 8) (set best : Int32) : bett σ set best ↔ (spSorts σ best < spSorts σ set ∨ (spSorts σ set = spSorts σ best ∧ spPrice σ set (cn σ 65) < spPrice σ best (cn σ 65)) ∨ ((spSorts σ set = spSorts σ best ∧ spPrice σ set (cn σ 65) = spPrice σ best (cn σ 65)) ∧ ¬ set &&& (set ^^^ best) &&& -(set ^^^ best) = 0)) := by
  have p1 := price_bd h set _ (Nat.le_refl _) hn
  have p2 := price_bd h best _ (Nat.le_refl _) hn
  have s1 := bitc_bd (spSortB σ set (cn σ 65))
  have s2 := bitc_bd (spSortB σ best (cn σ 65))
  have hs := sub_sg (a := spSorts σ set) (b := spSorts σ best) (by show _ ≤ (bitc _).toInt ∧ (bitc _).toInt ≤ _; omega) (by show _ ≤ (bitc _).toInt ∧ (bitc _).toInt ≤ _; omega)
  have hp := sub_sg (a := spPrice σ best (cn σ 65)) (b := spPrice σ set (cn σ 65)) (by omega) (by omega)
  have ea : set &&& ((set ^^^ best) &&& -(set ^^^ best)) = set &&& (set ^^^ best) &&& -(set ^^^ best) := (Int32.and_assoc _ _ _).symm
  unfold bett
  simp only [ea, ne_eq]
  by_cases z : spSorts σ set - spSorts σ best = 0
  · have z2 := hs.2.mp z
    rw [if_pos z, hp.1, hp.2]
    constructor
    · rintro (y | y)
      · exact Or.inr (Or.inl ⟨z2, y⟩)
      · exact Or.inr (Or.inr ⟨⟨z2, y.1.symm⟩, y.2⟩)
    · rintro (y | y | y)
      · rw [z2] at y; exact absurd y Int32.lt_irrefl
      · exact Or.inl y.2
      · exact Or.inr ⟨y.1.2.symm, y.2⟩
  · have z2 : ¬ spSorts σ set = spSorts σ best := fun y => z (hs.2.mpr y)
    rw [if_neg z, hs.1]
    constructor
    · rintro (y | y)
      · exact Or.inl y
      · exact absurd y.1 z
    · rintro (y | y | y)
      · exact Or.inl y
      · exact absurd y.1 z2
      · exact absurd y.1.1 z2
theorem price_0 (σ : MS) : ∀ n, n ≤ 8 → spPrice σ 0 n = 0
  | 0, _ => rfl
  | n + 1, h => by
    have es : spPrice σ 0 (n + 1) = if ((0 : Int32) >>> (nI n &&& 31)) &&& 1 = 1 then spPrice σ 0 n + σ.2 62 n else spPrice σ 0 n := rfl
    have hz : ∀ n, n < 8 → ¬ ((0 : Int32) >>> (nI n &&& 31)) &&& 1 = 1 := by decide +kernel
    rw [es, if_neg (hz n (by omega)), price_0 σ n (by omega)]
theorem sortB_0 (σ : MS) : ∀ n, n ≤ 8 → spSortB σ 0 n = 0
  | 0, _ => rfl
  | n + 1, h => by
    have es : spSortB σ 0 (n + 1) = if ((0 : Int32) >>> (nI n &&& 31)) &&& 1 = 1 then spSortB σ 0 n ||| σ.2 63 n else spSortB σ 0 n := rfl
    have hz : ∀ n, n < 8 → ¬ ((0 : Int32) >>> (nI n &&& 31)) &&& 1 = 1 := by decide +kernel
    rw [es, if_neg (hz n (by omega)), sortB_0 σ n (by omega)]
section CLD
variable {G : Gam} {d : Nat} {τ : Nat → Nat} {ω : Nat → Nat → Nat} {ε : Nat → Nat} {σ κ : MS} {Md : Mem} {M : Mem} {Q : Option Value → Mem → Prop} {k : Nat}
theorem c_X11_hide {m : Int32} (hW : Wld G τ ω ε σ κ Md) (hZ : ZHid G) (hq : Q (some (.int (aHide σ m))) (cm τ κ Md)) : CT G (d + 5) (0, 0) MX11_hide [.ref (τ 0), .int m] (cm τ κ Md) Q := by
  have hi := hW.1
  obtain ⟨a, hz, ht⟩ := hZ
  refine CT.of rfl (Nat.le_of_ble_eq_true rfl) ?_
  refine x_iload_n dX11_hide_0 rfl rfl ?_
  refine x_iconst (v := 1) dX11_hide_1 (by decide) ?_
  refine x_icmp_ge (tgt := 7) dX11_hide_2 (by decide) (fun h2 => ?_) (fun h2 => ?_)
  · refine x_gets dX11_hide_7 hz tb1018 rfl ?_
    refine x_astore_n dX11_hide_10 rfl (by decide) ?_
    refine x_aload_n dX11_hide_11 rfl rfl ?_
    refine x_olen dX11_hide_12 ht rfl ?_
    refine x_istore_n dX11_hide_13 rfl (by decide) ?_
    refine x_iconst (v := 0) dX11_hide_14 (by decide) ?_
    refine x_istore dX11_hide_15 (by decide) ?_
    have hq2 := fan_t hq h2
    refine x_loc [(0, .ref (τ 0)), (1, .int m), (2, .ref a), (3, .int 8), (4, .int (nI 0))] ⟨rfl, rfl, rfl, rfl, rfl, trivial⟩ ?_
    suffices H : ∀ f i, i + f = 8 → (∀ p, p < i → ¬ hidP σ m p) → XJ G (d + 5) (0, 0) MX11_hide (cm τ κ Md) [(0, .ref (τ 0)), (1, .int m), (2, .ref a), (3, .int 8), (4, .int (nI i))] [] 17 Q from H 8 0 (by omega) (fun p hp => absurd hp (Nat.not_lt_zero p))
    intro f
    induction f with
    | zero =>
      intro i hif hall
      obtain rfl : i = 8 := by omega
      rw [hide_none hall] at hq2
      refine x_iload dX11_hide_17 rfl ?_
      refine x_iload_n dX11_hide_19 rfl rfl ?_
      refine x_icmp_ge (tgt := 51) dX11_hide_20 (by decide) (fun _ => ?_) (fun z => absurd (by decide) z)
      refine x_iconst (v := -1) dX11_hide_51 (by decide) ?_
      exact x_ireturn dX11_hide_52 rfl rfl (hq2)
    | succ f ih =>
      intro i hif hall
      have hlt : i < 8 := by omega
      have hcl : (nI i).toNatClampNeg = i := nI_clamp (by omega)
      refine x_iload dX11_hide_17 rfl ?_
      refine x_iload_n dX11_hide_19 rfl rfl ?_
      refine x_icmp_ge (tgt := 51) dX11_hide_20 (by decide) (fun z => absurd z (nI_ge (b := 8) hlt (by decide))) (fun _ => ?_)
      refine x_aload_n dX11_hide_23 rfl rfl ?_
      refine x_iload dX11_hide_24 rfl ?_
      refine x_oiald dX11_hide_26 ht (vp_in_nI hlt (by decide)) (by rw [hcl]) ?_
      refine x_istore dX11_hide_27 (by decide) ?_
      refine x_aload_n dX11_hide_29 rfl rfl ?_
      refine x_iload_n dX11_hide_30 rfl rfl ?_
      refine x_bipush (v := 7) dX11_hide_31 (by decide) ?_
      refine x_iload dX11_hide_33 rfl ?_
      refine x_isub dX11_hide_35 ?_
      refine x_cV2 dX11_hide_36 lv_X11_399 (kc hi kf_0) rfl rfl rfl  (c_X11_allHaveAlike hW ?_)
      refine x_if_eq_b (tgt := 45) dX11_hide_39 (by decide) (fun h39 => ?_) (fun h39 => ?_)
      · refine x_iinc (c := 1) dX11_hide_45 rfl (by decide) ?_
        refine x_goto (tgt := 17) dX11_hide_48 (by decide) ?_
        refine x_loc _ (?_ : lle _ _) (ih (i + 1) (by omega) (fun p hp => ?_))
        · refine ⟨rfl, rfl, rfl, rfl, ?_, trivial⟩
          show some (Value.int (nI i + 1)) = some (Value.int (nI (i + 1)))
          rw [nI_1]
        · by_cases e : p = i
          · subst e; exact h39
          · exact hall p (by omega)
      · refine x_iload dX11_hide_42 rfl ?_
        exact x_ireturn dX11_hide_44 rfl rfl (by
rw [hide_some hlt hall h39] at hq2; exact hq2)
  · refine x_iconst (v := -1) dX11_hide_5 (by decide) ?_
    exact x_ireturn dX11_hide_6 rfl rfl (fan_f hq h2)
theorem c_X11_buy {coin : Int32} (hW : Wld G τ ω ε σ κ Md) (hB : QuB σ) (hq : Q (some (.int (aBuy σ coin))) (cm τ κ Md)) : CT G (d + 4) (0, 0) MX11_buy [.ref (τ 0), .int coin] (cm τ κ Md) Q := by
  have hW' := hW
  obtain ⟨hi, hc, hD, hK⟩ := hW
  obtain ⟨hl1, hl2⟩ := hc.b 65 (b := 8) (by decide)
  have hpw : 2 ^ cn σ 65 ≤ 2 ^ 8 := Nat.pow_le_pow_right (by decide) hl2
  have hpw1 : 1 ≤ 2 ^ cn σ 65 := Nat.one_le_two_pow
  have e1 : spPrice σ 0 (cn σ 65) = 0 := price_0 σ _ hl2
  have e2 : spSorts σ 0 = 0 := by unfold spSorts; rw [sortB_0 σ _ hl2]; decide
  refine CT.of rfl (Nat.le_of_ble_eq_true rfl) ?_
  refine x_iload_n dX11_buy_0 rfl rfl ?_
  refine x_cS1 dX11_buy_1 ls_X11_406 rfl  (c_X11_isCoin ?_)
  refine x_if_ne_b (tgt := 9) dX11_buy_4 (by decide) (fun h4 => ?_) (fun h4 => ?_)
  · refine x_iconst (v := 0) dX11_buy_9 (by decide) ?_
    refine x_istore_n dX11_buy_10 rfl (by decide) ?_
    refine x_iconst (v := 0) dX11_buy_11 (by decide) ?_
    refine x_istore_n dX11_buy_12 rfl (by decide) ?_
    refine x_iconst (v := 0) dX11_buy_13 (by decide) ?_
    refine x_istore dX11_buy_14 (by decide) ?_
    refine x_iconst (v := 1) dX11_buy_16 (by decide) ?_
    refine x_istore dX11_buy_17 (by decide) ?_
    have hq2 := fan_t hq h4
    refine x_loc [(0, .ref (τ 0)), (1, .int coin), (2, .int (spBuy σ coin 0)), (3, .int (spPrice σ (spBuy σ coin 0) (cn σ 65))), (4, .int (spSorts σ (spBuy σ coin 0))), (5, .int (nI (0 + 1)))] ⟨rfl, rfl, rfl, by show some (Value.int 0) = some (Value.int (spPrice σ 0 (cn σ 65))); rw [e1], by show some (Value.int 0) = some (Value.int (spSorts σ 0)); rw [e2], rfl, trivial⟩ ?_
    refine loop_up (P := fun i => XJ G (d + 4) (0, 0) MX11_buy (cm τ κ Md) [(0, .ref (τ 0)), (1, .int coin), (2, .int (spBuy σ coin i)), (3, .int (spPrice σ (spBuy σ coin i) (cn σ 65))), (4, .int (spSorts σ (spBuy σ coin i))), (5, .int (nI (i + 1)))] [] 19 Q) (n := 2 ^ cn σ 65 - 1) ?_ ?_ 0 (Nat.zero_le _)
    · refine x_iload dX11_buy_19 rfl ?_
      refine x_iconst (v := 1) dX11_buy_21 (by decide) ?_
      refine x_aload_n dX11_buy_22 rfl rfl ?_
      refine x_getf dX11_buy_23 lf_X11_31 (kc hi kf_0) kv_0_7 ?_
      refine x_cV0 dX11_buy_26 lv_X11_100 (hD.lc 7 li_7) rfl rfl rfl (c_lsz_7 hD ?_)
      refine x_ishl dX11_buy_29 ?_
      rw [sh_bd _ hl2]
      refine x_icmp_ge (tgt := 125) dX11_buy_30 (by decide) (fun _ => ?_) (fun z => absurd (by rw [show 2 ^ cn σ 65 - 1 + 1 = 2 ^ cn σ 65 by omega]; exact Int32.le_refl _) z)
      refine x_iload_n dX11_buy_125 rfl rfl ?_
      exact x_ireturn dX11_buy_126 rfl rfl (hq2)
    · intro i hlt ih
      have es : spBuy σ coin (i + 1) = cI (spPrice σ (nI (i + 1)) (cn σ 65) ≤ coin ∧ bett σ (nI (i + 1)) (spBuy σ coin i)) (nI (i + 1)) (spBuy σ coin i) := rfl
      have hb := bett_iff hB hl2 (nI (i + 1)) (spBuy σ coin i)
      refine x_iload dX11_buy_19 rfl ?_
      refine x_iconst (v := 1) dX11_buy_21 (by decide) ?_
      refine x_aload_n dX11_buy_22 rfl rfl ?_
      refine x_getf dX11_buy_23 lf_X11_31 (kc hi kf_0) kv_0_7 ?_
      refine x_cV0 dX11_buy_26 lv_X11_100 (hD.lc 7 li_7) rfl rfl rfl (c_lsz_7 hD ?_)
      refine x_ishl dX11_buy_29 ?_
      rw [sh_bd _ hl2]
      refine x_icmp_ge (tgt := 125) dX11_buy_30 (by decide) (fun z => absurd z (nI_ge (by omega) (by omega))) (fun _ => ?_)
      refine x_aload_n dX11_buy_33 rfl rfl ?_
      refine x_iload dX11_buy_34 rfl ?_
      refine x_cV1 dX11_buy_36 lv_X11_409 (kc hi kf_0) rfl rfl rfl  (c_X11_priceOf hW' ?_)
      refine x_istore dX11_buy_39 (by decide) ?_
      refine x_aload_n dX11_buy_41 rfl rfl ?_
      refine x_iload dX11_buy_42 rfl ?_
      refine x_cV1 dX11_buy_44 lv_X11_412 (kc hi kf_0) rfl rfl rfl  (c_X11_sortsOf hW' ?_)
      refine x_istore dX11_buy_47 (by decide) ?_
      refine x_iload dX11_buy_49 rfl ?_
      refine x_iload dX11_buy_51 rfl ?_
      refine x_icmp_ne (tgt := 66) dX11_buy_53 (by decide) (fun h53 => ?_) (fun h53 => ?_)
      · refine x_iconst (v := 0) dX11_buy_66 (by decide) ?_
        refine x_istore dX11_buy_67 (by decide) ?_
        refine x_iload dX11_buy_69 rfl ?_
        refine x_iload_n dX11_buy_71 rfl rfl ?_
        refine x_icmp_gt (tgt := 119) dX11_buy_72 (by decide) (fun h72 => ?_) (fun h72 => ?_)
        · have hno : ¬ (spPrice σ (nI (i + 1)) (cn σ 65) ≤ coin ∧ bett σ (nI (i + 1)) (spBuy σ coin i)) := by
            intro z
            first
            | exact absurd z.1 (Int32.not_le.mpr h72)
            | (rcases hb.mp z.2 with y | y | y
               · exact h79 y
               · first | exact h86 y.1 | exact h92 y.2
               · first | exact h53 y.1.1 | exact h59 y.1.2 | exact h106 y.2)
          rw [cI_f hno] at es
          refine x_iinc (c := 1) dX11_buy_119 rfl (by decide) ?_
          refine x_goto (tgt := 19) dX11_buy_122 (by decide) ?_
          refine x_loc _ (?_ : lle _ _) ih
          rw [es]
          refine ⟨rfl, rfl, rfl, rfl, rfl, ?_, trivial⟩
          show some (Value.int (nI (i + 1) + 1)) = some (Value.int (nI (i + 1 + 1)))
          rw [nI_1]
        · refine x_iload dX11_buy_75 rfl ?_
          refine x_iload dX11_buy_77 rfl ?_
          refine x_icmp_gt (tgt := 109) dX11_buy_79 (by decide) (fun h79 => ?_) (fun h79 => ?_)
          · have hyes : spPrice σ (nI (i + 1)) (cn σ 65) ≤ coin ∧ bett σ (nI (i + 1)) (spBuy σ coin i) := ⟨Int32.not_lt.mp h72, hb.mpr (by
              first
              | exact Or.inl h79
              | exact Or.inr (Or.inl ⟨h86, h92⟩)
              | exact Or.inr (Or.inr ⟨⟨h53, h59⟩, h106⟩))⟩
            rw [cI_t hyes] at es
            refine x_iload dX11_buy_109 rfl ?_
            refine x_istore_n dX11_buy_111 rfl (by decide) ?_
            refine x_iload dX11_buy_112 rfl ?_
            refine x_istore_n dX11_buy_114 rfl (by decide) ?_
            refine x_iload dX11_buy_115 rfl ?_
            refine x_istore dX11_buy_117 (by decide) ?_
            refine x_iinc (c := 1) dX11_buy_119 rfl (by decide) ?_
            refine x_goto (tgt := 19) dX11_buy_122 (by decide) ?_
            refine x_loc _ (?_ : lle _ _) ih
            rw [es]
            refine ⟨rfl, rfl, rfl, rfl, rfl, ?_, trivial⟩
            show some (Value.int (nI (i + 1) + 1)) = some (Value.int (nI (i + 1 + 1)))
            rw [nI_1]
          · refine x_iload dX11_buy_82 rfl ?_
            refine x_iload dX11_buy_84 rfl ?_
            refine x_icmp_ne (tgt := 95) dX11_buy_86 (by decide) (fun h86 => ?_) (fun h86 => ?_)
            · refine x_iload dX11_buy_95 rfl ?_
              refine x_if_eq (tgt := 119) dX11_buy_97 (by decide) (fun _ => ?_) (fun z => absurd (by decide) z)
              have hno : ¬ (spPrice σ (nI (i + 1)) (cn σ 65) ≤ coin ∧ bett σ (nI (i + 1)) (spBuy σ coin i)) := by
                intro z
                first
                | exact absurd z.1 (Int32.not_le.mpr h72)
                | (rcases hb.mp z.2 with y | y | y
                   · exact h79 y
                   · first | exact h86 y.1 | exact h92 y.2
                   · first | exact h53 y.1.1 | exact h59 y.1.2 | exact h106 y.2)
              rw [cI_f hno] at es
              refine x_iinc (c := 1) dX11_buy_119 rfl (by decide) ?_
              refine x_goto (tgt := 19) dX11_buy_122 (by decide) ?_
              refine x_loc _ (?_ : lle _ _) ih
              rw [es]
              refine ⟨rfl, rfl, rfl, rfl, rfl, ?_, trivial⟩
              show some (Value.int (nI (i + 1) + 1)) = some (Value.int (nI (i + 1 + 1)))
              rw [nI_1]
            · refine x_iload dX11_buy_89 rfl ?_
              refine x_iload_n dX11_buy_91 rfl rfl ?_
              refine x_icmp_lt (tgt := 109) dX11_buy_92 (by decide) (fun h92 => ?_) (fun h92 => ?_)
              · have hyes : spPrice σ (nI (i + 1)) (cn σ 65) ≤ coin ∧ bett σ (nI (i + 1)) (spBuy σ coin i) := ⟨Int32.not_lt.mp h72, hb.mpr (by
                  first
                  | exact Or.inl h79
                  | exact Or.inr (Or.inl ⟨h86, h92⟩)
                  | exact Or.inr (Or.inr ⟨⟨h53, h59⟩, h106⟩))⟩
                rw [cI_t hyes] at es
                refine x_iload dX11_buy_109 rfl ?_
                refine x_istore_n dX11_buy_111 rfl (by decide) ?_
                refine x_iload dX11_buy_112 rfl ?_
                refine x_istore_n dX11_buy_114 rfl (by decide) ?_
                refine x_iload dX11_buy_115 rfl ?_
                refine x_istore dX11_buy_117 (by decide) ?_
                refine x_iinc (c := 1) dX11_buy_119 rfl (by decide) ?_
                refine x_goto (tgt := 19) dX11_buy_122 (by decide) ?_
                refine x_loc _ (?_ : lle _ _) ih
                rw [es]
                refine ⟨rfl, rfl, rfl, rfl, rfl, ?_, trivial⟩
                show some (Value.int (nI (i + 1) + 1)) = some (Value.int (nI (i + 1 + 1)))
                rw [nI_1]
              · refine x_iload dX11_buy_95 rfl ?_
                refine x_if_eq (tgt := 119) dX11_buy_97 (by decide) (fun _ => ?_) (fun z => absurd (by decide) z)
                have hno : ¬ (spPrice σ (nI (i + 1)) (cn σ 65) ≤ coin ∧ bett σ (nI (i + 1)) (spBuy σ coin i)) := by
                  intro z
                  first
                  | exact absurd z.1 (Int32.not_le.mpr h72)
                  | (rcases hb.mp z.2 with y | y | y
                     · exact h79 y
                     · first | exact h86 y.1 | exact h92 y.2
                     · first | exact h53 y.1.1 | exact h59 y.1.2 | exact h106 y.2)
                rw [cI_f hno] at es
                refine x_iinc (c := 1) dX11_buy_119 rfl (by decide) ?_
                refine x_goto (tgt := 19) dX11_buy_122 (by decide) ?_
                refine x_loc _ (?_ : lle _ _) ih
                rw [es]
                refine ⟨rfl, rfl, rfl, rfl, rfl, ?_, trivial⟩
                show some (Value.int (nI (i + 1) + 1)) = some (Value.int (nI (i + 1 + 1)))
                rw [nI_1]
      · refine x_iload dX11_buy_56 rfl ?_
        refine x_iload_n dX11_buy_58 rfl rfl ?_
        refine x_icmp_ne (tgt := 66) dX11_buy_59 (by decide) (fun h59 => ?_) (fun h59 => ?_)
        · refine x_iconst (v := 0) dX11_buy_66 (by decide) ?_
          refine x_istore dX11_buy_67 (by decide) ?_
          refine x_iload dX11_buy_69 rfl ?_
          refine x_iload_n dX11_buy_71 rfl rfl ?_
          refine x_icmp_gt (tgt := 119) dX11_buy_72 (by decide) (fun h72 => ?_) (fun h72 => ?_)
          · have hno : ¬ (spPrice σ (nI (i + 1)) (cn σ 65) ≤ coin ∧ bett σ (nI (i + 1)) (spBuy σ coin i)) := by
              intro z
              first
              | exact absurd z.1 (Int32.not_le.mpr h72)
              | (rcases hb.mp z.2 with y | y | y
                 · exact h79 y
                 · first | exact h86 y.1 | exact h92 y.2
                 · first | exact h53 y.1.1 | exact h59 y.1.2 | exact h106 y.2)
            rw [cI_f hno] at es
            refine x_iinc (c := 1) dX11_buy_119 rfl (by decide) ?_
            refine x_goto (tgt := 19) dX11_buy_122 (by decide) ?_
            refine x_loc _ (?_ : lle _ _) ih
            rw [es]
            refine ⟨rfl, rfl, rfl, rfl, rfl, ?_, trivial⟩
            show some (Value.int (nI (i + 1) + 1)) = some (Value.int (nI (i + 1 + 1)))
            rw [nI_1]
          · refine x_iload dX11_buy_75 rfl ?_
            refine x_iload dX11_buy_77 rfl ?_
            refine x_icmp_gt (tgt := 109) dX11_buy_79 (by decide) (fun h79 => ?_) (fun h79 => ?_)
            · have hyes : spPrice σ (nI (i + 1)) (cn σ 65) ≤ coin ∧ bett σ (nI (i + 1)) (spBuy σ coin i) := ⟨Int32.not_lt.mp h72, hb.mpr (by
                first
                | exact Or.inl h79
                | exact Or.inr (Or.inl ⟨h86, h92⟩)
                | exact Or.inr (Or.inr ⟨⟨h53, h59⟩, h106⟩))⟩
              rw [cI_t hyes] at es
              refine x_iload dX11_buy_109 rfl ?_
              refine x_istore_n dX11_buy_111 rfl (by decide) ?_
              refine x_iload dX11_buy_112 rfl ?_
              refine x_istore_n dX11_buy_114 rfl (by decide) ?_
              refine x_iload dX11_buy_115 rfl ?_
              refine x_istore dX11_buy_117 (by decide) ?_
              refine x_iinc (c := 1) dX11_buy_119 rfl (by decide) ?_
              refine x_goto (tgt := 19) dX11_buy_122 (by decide) ?_
              refine x_loc _ (?_ : lle _ _) ih
              rw [es]
              refine ⟨rfl, rfl, rfl, rfl, rfl, ?_, trivial⟩
              show some (Value.int (nI (i + 1) + 1)) = some (Value.int (nI (i + 1 + 1)))
              rw [nI_1]
            · refine x_iload dX11_buy_82 rfl ?_
              refine x_iload dX11_buy_84 rfl ?_
              refine x_icmp_ne (tgt := 95) dX11_buy_86 (by decide) (fun h86 => ?_) (fun h86 => ?_)
              · refine x_iload dX11_buy_95 rfl ?_
                refine x_if_eq (tgt := 119) dX11_buy_97 (by decide) (fun _ => ?_) (fun z => absurd (by decide) z)
                have hno : ¬ (spPrice σ (nI (i + 1)) (cn σ 65) ≤ coin ∧ bett σ (nI (i + 1)) (spBuy σ coin i)) := by
                  intro z
                  first
                  | exact absurd z.1 (Int32.not_le.mpr h72)
                  | (rcases hb.mp z.2 with y | y | y
                     · exact h79 y
                     · first | exact h86 y.1 | exact h92 y.2
                     · first | exact h53 y.1.1 | exact h59 y.1.2 | exact h106 y.2)
                rw [cI_f hno] at es
                refine x_iinc (c := 1) dX11_buy_119 rfl (by decide) ?_
                refine x_goto (tgt := 19) dX11_buy_122 (by decide) ?_
                refine x_loc _ (?_ : lle _ _) ih
                rw [es]
                refine ⟨rfl, rfl, rfl, rfl, rfl, ?_, trivial⟩
                show some (Value.int (nI (i + 1) + 1)) = some (Value.int (nI (i + 1 + 1)))
                rw [nI_1]
              · refine x_iload dX11_buy_89 rfl ?_
                refine x_iload_n dX11_buy_91 rfl rfl ?_
                refine x_icmp_lt (tgt := 109) dX11_buy_92 (by decide) (fun h92 => ?_) (fun h92 => ?_)
                · have hyes : spPrice σ (nI (i + 1)) (cn σ 65) ≤ coin ∧ bett σ (nI (i + 1)) (spBuy σ coin i) := ⟨Int32.not_lt.mp h72, hb.mpr (by
                    first
                    | exact Or.inl h79
                    | exact Or.inr (Or.inl ⟨h86, h92⟩)
                    | exact Or.inr (Or.inr ⟨⟨h53, h59⟩, h106⟩))⟩
                  rw [cI_t hyes] at es
                  refine x_iload dX11_buy_109 rfl ?_
                  refine x_istore_n dX11_buy_111 rfl (by decide) ?_
                  refine x_iload dX11_buy_112 rfl ?_
                  refine x_istore_n dX11_buy_114 rfl (by decide) ?_
                  refine x_iload dX11_buy_115 rfl ?_
                  refine x_istore dX11_buy_117 (by decide) ?_
                  refine x_iinc (c := 1) dX11_buy_119 rfl (by decide) ?_
                  refine x_goto (tgt := 19) dX11_buy_122 (by decide) ?_
                  refine x_loc _ (?_ : lle _ _) ih
                  rw [es]
                  refine ⟨rfl, rfl, rfl, rfl, rfl, ?_, trivial⟩
                  show some (Value.int (nI (i + 1) + 1)) = some (Value.int (nI (i + 1 + 1)))
                  rw [nI_1]
                · refine x_iload dX11_buy_95 rfl ?_
                  refine x_if_eq (tgt := 119) dX11_buy_97 (by decide) (fun _ => ?_) (fun z => absurd (by decide) z)
                  have hno : ¬ (spPrice σ (nI (i + 1)) (cn σ 65) ≤ coin ∧ bett σ (nI (i + 1)) (spBuy σ coin i)) := by
                    intro z
                    first
                    | exact absurd z.1 (Int32.not_le.mpr h72)
                    | (rcases hb.mp z.2 with y | y | y
                       · exact h79 y
                       · first | exact h86 y.1 | exact h92 y.2
                       · first | exact h53 y.1.1 | exact h59 y.1.2 | exact h106 y.2)
                  rw [cI_f hno] at es
                  refine x_iinc (c := 1) dX11_buy_119 rfl (by decide) ?_
                  refine x_goto (tgt := 19) dX11_buy_122 (by decide) ?_
                  refine x_loc _ (?_ : lle _ _) ih
                  rw [es]
                  refine ⟨rfl, rfl, rfl, rfl, rfl, ?_, trivial⟩
                  show some (Value.int (nI (i + 1) + 1)) = some (Value.int (nI (i + 1 + 1)))
                  rw [nI_1]
        · refine x_iconst (v := 1) dX11_buy_62 (by decide) ?_
          refine x_goto (tgt := 67) dX11_buy_63 (by decide) ?_
          refine x_istore dX11_buy_67 (by decide) ?_
          refine x_iload dX11_buy_69 rfl ?_
          refine x_iload_n dX11_buy_71 rfl rfl ?_
          refine x_icmp_gt (tgt := 119) dX11_buy_72 (by decide) (fun h72 => ?_) (fun h72 => ?_)
          · have hno : ¬ (spPrice σ (nI (i + 1)) (cn σ 65) ≤ coin ∧ bett σ (nI (i + 1)) (spBuy σ coin i)) := by
              intro z
              first
              | exact absurd z.1 (Int32.not_le.mpr h72)
              | (rcases hb.mp z.2 with y | y | y
                 · exact h79 y
                 · first | exact h86 y.1 | exact h92 y.2
                 · first | exact h53 y.1.1 | exact h59 y.1.2 | exact h106 y.2)
            rw [cI_f hno] at es
            refine x_iinc (c := 1) dX11_buy_119 rfl (by decide) ?_
            refine x_goto (tgt := 19) dX11_buy_122 (by decide) ?_
            refine x_loc _ (?_ : lle _ _) ih
            rw [es]
            refine ⟨rfl, rfl, rfl, rfl, rfl, ?_, trivial⟩
            show some (Value.int (nI (i + 1) + 1)) = some (Value.int (nI (i + 1 + 1)))
            rw [nI_1]
          · refine x_iload dX11_buy_75 rfl ?_
            refine x_iload dX11_buy_77 rfl ?_
            refine x_icmp_gt (tgt := 109) dX11_buy_79 (by decide) (fun h79 => ?_) (fun h79 => ?_)
            · have hyes : spPrice σ (nI (i + 1)) (cn σ 65) ≤ coin ∧ bett σ (nI (i + 1)) (spBuy σ coin i) := ⟨Int32.not_lt.mp h72, hb.mpr (by
                first
                | exact Or.inl h79
                | exact Or.inr (Or.inl ⟨h86, h92⟩)
                | exact Or.inr (Or.inr ⟨⟨h53, h59⟩, h106⟩))⟩
              rw [cI_t hyes] at es
              refine x_iload dX11_buy_109 rfl ?_
              refine x_istore_n dX11_buy_111 rfl (by decide) ?_
              refine x_iload dX11_buy_112 rfl ?_
              refine x_istore_n dX11_buy_114 rfl (by decide) ?_
              refine x_iload dX11_buy_115 rfl ?_
              refine x_istore dX11_buy_117 (by decide) ?_
              refine x_iinc (c := 1) dX11_buy_119 rfl (by decide) ?_
              refine x_goto (tgt := 19) dX11_buy_122 (by decide) ?_
              refine x_loc _ (?_ : lle _ _) ih
              rw [es]
              refine ⟨rfl, rfl, rfl, rfl, rfl, ?_, trivial⟩
              show some (Value.int (nI (i + 1) + 1)) = some (Value.int (nI (i + 1 + 1)))
              rw [nI_1]
            · refine x_iload dX11_buy_82 rfl ?_
              refine x_iload dX11_buy_84 rfl ?_
              refine x_icmp_ne (tgt := 95) dX11_buy_86 (by decide) (fun h86 => ?_) (fun h86 => ?_)
              · refine x_iload dX11_buy_95 rfl ?_
                refine x_if_eq (tgt := 119) dX11_buy_97 (by decide) (fun z => absurd z (by decide)) (fun _ => ?_)
                refine x_iload dX11_buy_100 rfl ?_
                refine x_iload_n dX11_buy_102 rfl rfl ?_
                refine x_cS2 dX11_buy_103 ls_X11_415 rfl  (c_X11_hasTheFirstUnlike ?_)
                refine x_if_eq_b (tgt := 119) dX11_buy_106 (by decide) (fun h106 => ?_) (fun h106 => ?_)
                · have hno : ¬ (spPrice σ (nI (i + 1)) (cn σ 65) ≤ coin ∧ bett σ (nI (i + 1)) (spBuy σ coin i)) := by
                    intro z
                    first
                    | exact absurd z.1 (Int32.not_le.mpr h72)
                    | (rcases hb.mp z.2 with y | y | y
                       · exact h79 y
                       · first | exact h86 y.1 | exact h92 y.2
                       · first | exact h53 y.1.1 | exact h59 y.1.2 | exact h106 y.2)
                  rw [cI_f hno] at es
                  refine x_iinc (c := 1) dX11_buy_119 rfl (by decide) ?_
                  refine x_goto (tgt := 19) dX11_buy_122 (by decide) ?_
                  refine x_loc _ (?_ : lle _ _) ih
                  rw [es]
                  refine ⟨rfl, rfl, rfl, rfl, rfl, ?_, trivial⟩
                  show some (Value.int (nI (i + 1) + 1)) = some (Value.int (nI (i + 1 + 1)))
                  rw [nI_1]
                · have hyes : spPrice σ (nI (i + 1)) (cn σ 65) ≤ coin ∧ bett σ (nI (i + 1)) (spBuy σ coin i) := ⟨Int32.not_lt.mp h72, hb.mpr (by
                    first
                    | exact Or.inl h79
                    | exact Or.inr (Or.inl ⟨h86, h92⟩)
                    | exact Or.inr (Or.inr ⟨⟨h53, h59⟩, h106⟩))⟩
                  rw [cI_t hyes] at es
                  refine x_iload dX11_buy_109 rfl ?_
                  refine x_istore_n dX11_buy_111 rfl (by decide) ?_
                  refine x_iload dX11_buy_112 rfl ?_
                  refine x_istore_n dX11_buy_114 rfl (by decide) ?_
                  refine x_iload dX11_buy_115 rfl ?_
                  refine x_istore dX11_buy_117 (by decide) ?_
                  refine x_iinc (c := 1) dX11_buy_119 rfl (by decide) ?_
                  refine x_goto (tgt := 19) dX11_buy_122 (by decide) ?_
                  refine x_loc _ (?_ : lle _ _) ih
                  rw [es]
                  refine ⟨rfl, rfl, rfl, rfl, rfl, ?_, trivial⟩
                  show some (Value.int (nI (i + 1) + 1)) = some (Value.int (nI (i + 1 + 1)))
                  rw [nI_1]
              · refine x_iload dX11_buy_89 rfl ?_
                refine x_iload_n dX11_buy_91 rfl rfl ?_
                refine x_icmp_lt (tgt := 109) dX11_buy_92 (by decide) (fun h92 => ?_) (fun h92 => ?_)
                · have hyes : spPrice σ (nI (i + 1)) (cn σ 65) ≤ coin ∧ bett σ (nI (i + 1)) (spBuy σ coin i) := ⟨Int32.not_lt.mp h72, hb.mpr (by
                    first
                    | exact Or.inl h79
                    | exact Or.inr (Or.inl ⟨h86, h92⟩)
                    | exact Or.inr (Or.inr ⟨⟨h53, h59⟩, h106⟩))⟩
                  rw [cI_t hyes] at es
                  refine x_iload dX11_buy_109 rfl ?_
                  refine x_istore_n dX11_buy_111 rfl (by decide) ?_
                  refine x_iload dX11_buy_112 rfl ?_
                  refine x_istore_n dX11_buy_114 rfl (by decide) ?_
                  refine x_iload dX11_buy_115 rfl ?_
                  refine x_istore dX11_buy_117 (by decide) ?_
                  refine x_iinc (c := 1) dX11_buy_119 rfl (by decide) ?_
                  refine x_goto (tgt := 19) dX11_buy_122 (by decide) ?_
                  refine x_loc _ (?_ : lle _ _) ih
                  rw [es]
                  refine ⟨rfl, rfl, rfl, rfl, rfl, ?_, trivial⟩
                  show some (Value.int (nI (i + 1) + 1)) = some (Value.int (nI (i + 1 + 1)))
                  rw [nI_1]
                · refine x_iload dX11_buy_95 rfl ?_
                  refine x_if_eq (tgt := 119) dX11_buy_97 (by decide) (fun z => absurd z (by decide)) (fun _ => ?_)
                  refine x_iload dX11_buy_100 rfl ?_
                  refine x_iload_n dX11_buy_102 rfl rfl ?_
                  refine x_cS2 dX11_buy_103 ls_X11_415 rfl  (c_X11_hasTheFirstUnlike ?_)
                  refine x_if_eq_b (tgt := 119) dX11_buy_106 (by decide) (fun h106 => ?_) (fun h106 => ?_)
                  · have hno : ¬ (spPrice σ (nI (i + 1)) (cn σ 65) ≤ coin ∧ bett σ (nI (i + 1)) (spBuy σ coin i)) := by
                      intro z
                      first
                      | exact absurd z.1 (Int32.not_le.mpr h72)
                      | (rcases hb.mp z.2 with y | y | y
                         · exact h79 y
                         · first | exact h86 y.1 | exact h92 y.2
                         · first | exact h53 y.1.1 | exact h59 y.1.2 | exact h106 y.2)
                    rw [cI_f hno] at es
                    refine x_iinc (c := 1) dX11_buy_119 rfl (by decide) ?_
                    refine x_goto (tgt := 19) dX11_buy_122 (by decide) ?_
                    refine x_loc _ (?_ : lle _ _) ih
                    rw [es]
                    refine ⟨rfl, rfl, rfl, rfl, rfl, ?_, trivial⟩
                    show some (Value.int (nI (i + 1) + 1)) = some (Value.int (nI (i + 1 + 1)))
                    rw [nI_1]
                  · have hyes : spPrice σ (nI (i + 1)) (cn σ 65) ≤ coin ∧ bett σ (nI (i + 1)) (spBuy σ coin i) := ⟨Int32.not_lt.mp h72, hb.mpr (by
                      first
                      | exact Or.inl h79
                      | exact Or.inr (Or.inl ⟨h86, h92⟩)
                      | exact Or.inr (Or.inr ⟨⟨h53, h59⟩, h106⟩))⟩
                    rw [cI_t hyes] at es
                    refine x_iload dX11_buy_109 rfl ?_
                    refine x_istore_n dX11_buy_111 rfl (by decide) ?_
                    refine x_iload dX11_buy_112 rfl ?_
                    refine x_istore_n dX11_buy_114 rfl (by decide) ?_
                    refine x_iload dX11_buy_115 rfl ?_
                    refine x_istore dX11_buy_117 (by decide) ?_
                    refine x_iinc (c := 1) dX11_buy_119 rfl (by decide) ?_
                    refine x_goto (tgt := 19) dX11_buy_122 (by decide) ?_
                    refine x_loc _ (?_ : lle _ _) ih
                    rw [es]
                    refine ⟨rfl, rfl, rfl, rfl, rfl, ?_, trivial⟩
                    show some (Value.int (nI (i + 1) + 1)) = some (Value.int (nI (i + 1 + 1)))
                    rw [nI_1]
  · refine x_iconst (v := -1) dX11_buy_7 (by decide) ?_
    exact x_ireturn dX11_buy_8 rfl rfl (fan_f hq h4)
theorem c_X11_wayPart {w a b c : Int32} (hq : Q (some (.int (if w = 0 then a else if w = 1 then b else c))) M) : CT G d (0, 0) MX11_wayPart [.int w, .int a, .int b, .int c] M Q := by
  refine CT.of rfl (Nat.le_of_ble_eq_true rfl) ?_
  refine x_iload_n dX11_wayPart_0 rfl rfl ?_
  refine x_if_ne (tgt := 6) dX11_wayPart_1 (by decide) (fun h1 => ?_) (fun h1 => ?_)
  · refine x_iload_n dX11_wayPart_6 rfl rfl ?_
    refine x_iconst (v := 1) dX11_wayPart_7 (by decide) ?_
    refine x_icmp_ne (tgt := 15) dX11_wayPart_8 (by decide) (fun h8 => ?_) (fun h8 => ?_)
    · refine x_iload_n dX11_wayPart_15 rfl rfl ?_
      exact x_ireturn dX11_wayPart_16 rfl rfl (by
first
| (rw [if_pos h1] at hq; exact hq)
| (rw [if_neg h1, if_pos h8] at hq; exact hq)
| (rw [if_neg h1, if_neg h8] at hq; exact hq))
    · refine x_iload_n dX11_wayPart_11 rfl rfl ?_
      refine x_goto (tgt := 16) dX11_wayPart_12 (by decide) ?_
      exact x_ireturn dX11_wayPart_16 rfl rfl (by
first
| (rw [if_pos h1] at hq; exact hq)
| (rw [if_neg h1, if_pos h8] at hq; exact hq)
| (rw [if_neg h1, if_neg h8] at hq; exact hq))
  · refine x_iload_n dX11_wayPart_4 rfl rfl ?_
    exact x_ireturn dX11_wayPart_5 rfl rfl (by
first
| (rw [if_pos h1] at hq; exact hq)
| (rw [if_neg h1, if_pos h8] at hq; exact hq)
| (rw [if_neg h1, if_neg h8] at hq; exact hq))
theorem c_X11_way {p say q what : Int32} (hW : Wld G τ ω ε σ κ Md) (hf : LinF σ) (hq : Q (some (.int (aWay σ p say q what))) (cm τ κ Md)) : CT G (d + 4) (0, 0) MX11_way [.ref (τ 0), .int p, .int say, .int q, .int what] (cm τ κ Md) Q := by
  have hW' := hW
  obtain ⟨hi, hc, hD, hK⟩ := hW
  obtain ⟨hp1, hp2⟩ := hc.b 15 (b := 24) (by decide)
  obtain ⟨hl1, hl2⟩ := hc.b 16 (b := 200) (by decide)
  refine CT.of rfl (Nat.le_of_ble_eq_true rfl) ?_
  refine x_aload_n dX11_way_0 rfl rfl ?_
  refine x_iload_n dX11_way_1 rfl rfl ?_
  refine x_cV1 dX11_way_2 lv_X11_112 (kc hi kf_0) rfl rfl rfl  (c_X11_isPerson hW' ?_)
  refine x_if_eq_b (tgt := 33) dX11_way_5 (by decide) (fun h5 => ?_) (fun h5 => ?_)
  · refine x_iconst (v := -1) dX11_way_33 (by decide) ?_
    exact x_ireturn dX11_way_34 rfl rfl (fan_f hq (fun z => by first | exact h5 z.1 | exact h12 z.2.1 | exact h20 z.2.2.1 | exact h30 z.2.2.2.1))
  · refine x_iload_n dX11_way_8 rfl rfl ?_
    refine x_cS1 dX11_way_9 ls_X11_133 rfl  (c_X11_isSaying ?_)
    refine x_if_eq_b (tgt := 33) dX11_way_12 (by decide) (fun h12 => ?_) (fun h12 => ?_)
    · refine x_iconst (v := -1) dX11_way_33 (by decide) ?_
      exact x_ireturn dX11_way_34 rfl rfl (fan_f hq (fun z => by first | exact h5 z.1 | exact h12 z.2.1 | exact h20 z.2.2.1 | exact h30 z.2.2.2.1))
    · refine x_aload_n dX11_way_15 rfl rfl ?_
      refine x_iload_n dX11_way_16 rfl rfl ?_
      refine x_cV1 dX11_way_17 lv_X11_158 (kc hi kf_0) rfl rfl rfl  (c_X11_isKnownDay hW' ?_)
      refine x_if_eq_b (tgt := 33) dX11_way_20 (by decide) (fun h20 => ?_) (fun h20 => ?_)
      · refine x_iconst (v := -1) dX11_way_33 (by decide) ?_
        exact x_ireturn dX11_way_34 rfl rfl (fan_f hq (fun z => by first | exact h5 z.1 | exact h12 z.2.1 | exact h20 z.2.2.1 | exact h30 z.2.2.2.1))
      · refine x_iload dX11_way_23 rfl ?_
        refine x_iconst (v := 0) dX11_way_25 (by decide) ?_
        refine x_iconst (v := 2) dX11_way_26 (by decide) ?_
        refine x_cS3 dX11_way_27 ls_X11_92 rfl  (c_X11_isWithin ?_)
        refine x_if_ne_b (tgt := 35) dX11_way_30 (by decide) (fun h30 => ?_) (fun h30 => ?_)
        · rcases spWord_cases (σ := σ) (p := p) (say := say) (q := q) (cn σ 16) with hw | ⟨w, hwl, hw⟩
          · have hq2 := fan_f hq (fun z => z.2.2.2.2 hw)
            refine x_aload_n dX11_way_35 rfl rfl ?_
            refine x_iload_n dX11_way_36 rfl rfl ?_
            refine x_iload_n dX11_way_37 rfl rfl ?_
            refine x_iload_n dX11_way_38 rfl rfl ?_
            refine x_cV3 dX11_way_39 lv_X11_301 (kc hi kf_0) rfl rfl rfl  (c_X11_wordOf hW' ?_)
            rw [wdV_n hw]
            refine x_astoreN dX11_way_42 (by decide) ?_
            refine x_iload_n dX11_way_44 rfl rfl ?_
            refine x_istore dX11_way_45 (by decide) ?_
            refine x_iconst (v := 1) dX11_way_47 (by decide) ?_
            refine x_iload_n dX11_way_48 rfl rfl ?_
            refine x_ishl dX11_way_49 ?_
            refine x_istore dX11_way_50 (by decide) ?_
            refine x_iconst (v := 0) dX11_way_52 (by decide) ?_
            refine x_istore dX11_way_53 (by decide) ?_
            refine x_iload dX11_way_55 rfl ?_
            refine x_bipush (v := 24) dX11_way_57 (by decide) ?_
            refine x_icmp_gt (tgt := 178) dX11_way_59 (by decide) (fun h59 => ?_) (fun h59 => ?_)
            · refine x_iconst (v := -1) dX11_way_178 (by decide) ?_
              exact x_ireturn dX11_way_179 rfl rfl (hq2)
            · refine x_aloadN dX11_way_62 rfl ?_
              refine x_ifnullN (tgt := 178) dX11_way_64 (by decide) ?_
              refine x_iconst (v := -1) dX11_way_178 (by decide) ?_
              exact x_ireturn dX11_way_179 rfl rfl (hq2)
          · have hne : ¬ spWord σ p say q (cn σ 16) = -1 := by rw [hw]; exact nI_n1 (by omega)
            have hq2 := fan_t hq ⟨h5, h12, h20, h30, hne⟩
            have hmain : ∀ (f : Nat) (is : Int32) (met : List Int32) (w : Nat), (is :: met).length + f = 25 → (is :: met).Nodup → (∀ x ∈ is :: met, ∃ j, j < cn σ 15 ∧ x = nI j) → w < cn σ 16 → spWord σ is say q (cn σ 16) = nI w → Q (some (.int (if what = 0 then (wayS σ say q (f + 1) is met (nI met.length)).1 else if what = 1 then (wayS σ say q (f + 1) is met (nI met.length)).2.1 else (wayS σ say q (f + 1) is met (nI met.length)).2.2))) (cm τ κ Md) → XJ G (d + 4) (0, 0) MX11_way (cm τ κ Md) [(0, .ref (τ 0)), (2, .int say), (3, .int q), (4, .int what), (5, .ref (ω 2 w)), (6, .int is), (7, .int (mkM (is :: met))), (8, .int (nI met.length))] [] 55 Q := by
              intro f
              induction f with
              | zero =>
                intro is met w hlen hnd hval
                have := met_le hp2 hnd hval
                omega
              | succ f ihf =>
                intro is met w hlen hnd hval hwl hw hq
                have hml := met_le hp2 hnd hval
                rw [List.length_cons] at hml
                have hclw : (nI w).toNatClampNeg = w := nI_clamp (by omega)
                rw [way_s, hw, hclw] at hq
                have hsrc : ∀ (A : Option Int32), True := fun _ => trivial
                refine x_iload dX11_way_55 rfl ?_
                refine x_bipush (v := 24) dX11_way_57 (by decide) ?_
                refine x_icmp_gt (tgt := 178) dX11_way_59 (by decide) (fun z => absurd z (Int32.not_lt.mpr (nI_le (b := 24) (by omega) (by decide)))) (fun _ => ?_)
                refine x_aload dX11_way_62 rfl ?_
                refine x_ifnull dX11_way_64 ?_
                refine x_aload dX11_way_67 rfl ?_
                refine x_getf dX11_way_69 lf_X11_305 (ob_2 hD hwl) ov_2_5 ?_
                refine x_iconst (v := -1) dX11_way_72 (by decide) ?_
                refine x_icmp_ne (tgt := 87) dX11_way_73 (by decide) (fun h73 => ?_) (fun h73 => ?_)
                · rw [if_neg h73] at hq
                  obtain ⟨s, hsl, hse⟩ := of_lt ((hf w hwl).resolve_left h73).1 ((hf w hwl).resolve_left h73).2 hp1 (by omega)
                  rw [hse] at hq
                  rcases spWord_cases (σ := σ) (p := nI s) (say := say) (q := q) (cn σ 16) with hw2 | ⟨w2, hwl2, hw2⟩
                  · rw [if_pos (Or.inl hw2)] at hq
                    refine x_aload_n dX11_way_87 rfl rfl ?_
                    refine x_aload dX11_way_88 rfl ?_
                    refine x_getf dX11_way_90 lf_X11_305 (ob_2 hD hwl) ov_2_5 ?_
                    rw [hse]
                    refine x_iload_n dX11_way_93 rfl rfl ?_
                    refine x_iload_n dX11_way_94 rfl rfl ?_
                    refine x_cV3 dX11_way_95 lv_X11_301 (kc hi kf_0) rfl rfl rfl  (c_X11_wordOf hW' ?_)
                    rw [wdV_n hw2]
                    refine x_astoreN dX11_way_98 (by decide) ?_
                    refine x_aloadN dX11_way_100 rfl ?_
                    refine x_ifnullN (tgt := 118) dX11_way_102 (by decide) ?_
                    refine x_iload dX11_way_118 rfl ?_
                    refine x_iload dX11_way_120 rfl ?_
                    refine x_iconst (v := 1) dX11_way_122 (by decide) ?_
                    refine x_iload dX11_way_123 rfl ?_
                    refine x_cS4 dX11_way_125 ls_X11_306 rfl  (c_X11_wayPart ?_)
                    exact x_ireturn dX11_way_128 rfl rfl (hq)
                  · have hne2 : ¬ spWord σ (nI s) say q (cn σ 16) = -1 := by rw [hw2]; exact nI_n1 (by omega)
                    have hclw2 : (nI w2).toNatClampNeg = w2 := nI_clamp (by omega)
                    have h24 : ∀ x ∈ is :: met, ∃ j, j < 24 ∧ x = nI j := fun x hx => by
                      obtain ⟨j, hj, e⟩ := hval x hx
                      exact ⟨j, by omega, e⟩
                    have hin := mkM_in h24 (show s < 24 by omega)
                    refine x_aload_n dX11_way_87 rfl rfl ?_
                    refine x_aload dX11_way_88 rfl ?_
                    refine x_getf dX11_way_90 lf_X11_305 (ob_2 hD hwl) ov_2_5 ?_
                    rw [hse]
                    refine x_iload_n dX11_way_93 rfl rfl ?_
                    refine x_iload_n dX11_way_94 rfl rfl ?_
                    refine x_cV3 dX11_way_95 lv_X11_301 (kc hi kf_0) rfl rfl rfl  (c_X11_wordOf hW' ?_)
                    rw [hw2, wdV_r (by omega)]
                    refine x_astore dX11_way_98 (by decide) ?_
                    refine x_aload dX11_way_100 rfl ?_
                    refine x_ifnull dX11_way_102 ?_
                    refine x_aload dX11_way_105 rfl ?_
                    refine x_getf dX11_way_107 lf_X11_238 (ob_2 hD hwl2) ov_2_1 ?_
                    refine x_aload dX11_way_110 rfl ?_
                    refine x_getf dX11_way_112 lf_X11_238 (ob_2 hD hwl) ov_2_1 ?_
                    refine x_icmp_le (tgt := 129) dX11_way_115 (by decide) (fun h115 => ?_) (fun h115 => ?_)
                    · rw [if_neg (show ¬ (spWord σ (nI s) say q (cn σ 16) = -1 ∨ σ.2 9 w < σ.2 9 (spWord σ (nI s) say q (cn σ 16)).toNatClampNeg) from fun z => z.elim hne2 (fun y => by rw [hw2, hclw2] at y; exact absurd y (Int32.not_lt.mpr h115)))] at hq
                      refine x_aload dX11_way_129 rfl ?_
                      refine x_getf dX11_way_131 lf_X11_305 (ob_2 hD hwl) ov_2_5 ?_
                      rw [hse]
                      refine x_istore dX11_way_134 (by decide) ?_
                      refine x_iload dX11_way_136 rfl ?_
                      refine x_iconst (v := 1) dX11_way_138 (by decide) ?_
                      refine x_iload dX11_way_139 rfl ?_
                      refine x_ishl dX11_way_141 ?_
                      refine x_iand dX11_way_142 ?_
                      refine x_if_eq (tgt := 159) dX11_way_143 (by decide) (fun h143 => ?_) (fun h143 => ?_)
                      · have hnin : ¬ nI s ∈ is :: met := by first | exact hin.mp h143 | exact hin.mp (Classical.byContradiction h143)
                        rw [if_neg hnin] at hq
                        have hlen2 : nI met.length + 1 = nI (is :: met).length := by rw [nI_1, List.length_cons]
                        rw [hlen2] at hq
                        have hih := ihf (nI s) (is :: met) w2 (by rw [List.length_cons]; omega) (List.nodup_cons.mpr ⟨hnin, hnd⟩) (fun x hx => by
                          rcases List.mem_cons.mp hx with e | e
                          · exact ⟨s, hsl, e⟩
                          · exact hval x e) hwl2 hw2 hq
                        refine x_iload dX11_way_159 rfl ?_
                        refine x_iconst (v := 1) dX11_way_161 (by decide) ?_
                        refine x_iload dX11_way_162 rfl ?_
                        refine x_ishl dX11_way_164 ?_
                        refine x_ior dX11_way_165 ?_
                        refine x_istore dX11_way_166 (by decide) ?_
                        refine x_aload dX11_way_168 rfl ?_
                        refine x_astore dX11_way_170 (by decide) ?_
                        refine x_iinc (c := 1) dX11_way_172 rfl (by decide) ?_
                        refine x_goto (tgt := 55) dX11_way_175 (by decide) ?_
                        refine x_loc _ (?_ : lle _ _) hih
                        refine ⟨rfl, rfl, rfl, rfl, rfl, rfl, rfl, ?_, trivial⟩
                        show some (Value.int (nI met.length + 1)) = some (Value.int (nI (is :: met).length))
                        rw [hlen2]
                      · refine x_iload dX11_way_146 rfl ?_
                        refine x_iload dX11_way_148 rfl ?_
                        refine x_iconst (v := 2) dX11_way_150 (by decide) ?_
                        refine x_iload dX11_way_151 rfl ?_
                        refine x_iconst (v := 1) dX11_way_153 (by decide) ?_
                        refine x_iadd dX11_way_154 ?_
                        refine x_cS4 dX11_way_155 ls_X11_306 rfl  (c_X11_wayPart ?_)
                        exact x_ireturn dX11_way_158 rfl rfl (by rw [if_pos (show nI s ∈ is :: met from Classical.byContradiction (fun z => h143 (hin.mpr z)))] at hq; exact hq)
                    · refine x_iload dX11_way_118 rfl ?_
                      refine x_iload dX11_way_120 rfl ?_
                      refine x_iconst (v := 1) dX11_way_122 (by decide) ?_
                      refine x_iload dX11_way_123 rfl ?_
                      refine x_cS4 dX11_way_125 ls_X11_306 rfl  (c_X11_wayPart ?_)
                      exact x_ireturn dX11_way_128 rfl rfl (by
rw [if_pos (show spWord σ (nI s) say q (cn σ 16) = -1 ∨ σ.2 9 w < σ.2 9 (spWord σ (nI s) say q (cn σ 16)).toNatClampNeg from Or.inr (by rw [hw2, hclw2]; exact Int32.not_le.mp h115))] at hq; exact hq)
                · refine x_iload dX11_way_76 rfl ?_
                  refine x_iload dX11_way_78 rfl ?_
                  refine x_iconst (v := 0) dX11_way_80 (by decide) ?_
                  refine x_iload dX11_way_81 rfl ?_
                  refine x_cS4 dX11_way_83 ls_X11_306 rfl  (c_X11_wayPart ?_)
                  exact x_ireturn dX11_way_86 rfl rfl (by rw [if_pos h73] at hq; exact hq)
            obtain ⟨pj, hpj, hpe⟩ := of_lt h5.1 h5.2 hp1 (by omega)
            refine x_aload_n dX11_way_35 rfl rfl ?_
            refine x_iload_n dX11_way_36 rfl rfl ?_
            refine x_iload_n dX11_way_37 rfl rfl ?_
            refine x_iload_n dX11_way_38 rfl rfl ?_
            refine x_cV3 dX11_way_39 lv_X11_301 (kc hi kf_0) rfl rfl rfl  (c_X11_wordOf hW' ?_)
            rw [hw, wdV_r (by omega)]
            refine x_astore dX11_way_42 (by decide) ?_
            refine x_iload_n dX11_way_44 rfl rfl ?_
            refine x_istore dX11_way_45 (by decide) ?_
            refine x_iconst (v := 1) dX11_way_47 (by decide) ?_
            refine x_iload_n dX11_way_48 rfl rfl ?_
            refine x_ishl dX11_way_49 ?_
            refine x_istore dX11_way_50 (by decide) ?_
            refine x_iconst (v := 0) dX11_way_52 (by decide) ?_
            refine x_istore dX11_way_53 (by decide) ?_
            refine x_loc _ (?_ : lle _ _) (hmain 24 p [] w rfl (by simp) (fun x hx => ⟨pj, hpj, by rw [List.mem_singleton.mp hx]; exact hpe⟩) hwl hw hq2)
            refine ⟨rfl, rfl, rfl, rfl, rfl, rfl, ?_, rfl, trivial⟩
            show some (Value.int _) = some (Value.int (0 ||| _))
            rw [Int32.zero_or]
        · refine x_iconst (v := -1) dX11_way_33 (by decide) ?_
          exact x_ireturn dX11_way_34 rfl rfl (fan_f hq (fun z => by first | exact h5 z.1 | exact h12 z.2.1 | exact h20 z.2.2.1 | exact h30 z.2.2.2.1))
end CLD
