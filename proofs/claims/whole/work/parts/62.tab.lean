/-! the class, 11: the table of watchers -/
def TE (σ : MS) (one : Nat) (t t' : TT) : Prop := (∀ i, i < one → t.1 i = t'.1 i) ∧ t.2.2 = t'.2.2 ∧ (¬ t.2.2 = -1 → ∀ i, i < cn σ 60 → t.2.1 i = t'.2.1 i)
theorem TE.lo {σ : MS} {one one' : Nat} {t t' : TT} (h : TE σ one' t t') (hl : one ≤ one') : TE σ one t t' := ⟨fun i hi => h.1 i (by omega), h.2⟩
theorem TE.up {σ : MS} {one : Nat} {t t' : TT} (h : TE σ one t t') (v : Int32) : TE σ (one + 1) (updB t.1 one v, t.2) (updB t'.1 one v, t'.2) := by
  refine ⟨fun i hi => ?_, h.2⟩
  by_cases e : i = one
  · subst e; show updB t.1 i v i = updB t'.1 i v i; rw [updB_eq, updB_eq]
  · show updB t.1 one v i = updB t'.1 one v i
    rw [updB_ne e, updB_ne e]; exact h.1 i (by omega)
theorem mayS_c {σ : MS} {tr tr' : Nat → Int32} {w one : Nat} (h : ∀ i, i < one → tr i = tr' i) : mayS σ tr w one ↔ mayS σ tr' w one := by
  unfold mayS
  constructor
  · rintro ⟨a, b⟩
    exact ⟨a, fun k hk z => b k hk ⟨(h k hk).trans z.1, z.2⟩⟩
  · rintro ⟨a, b⟩
    exact ⟨a, fun k hk z => b k hk ⟨(h k hk).symm.trans z.1, z.2⟩⟩
theorem cpyN_get (f g : Nat → Int32) : ∀ n i, cpyN n f g i = if i < n then f i else g i
  | 0, i => (if_neg (Nat.not_lt_zero i)).symm
  | n + 1, i => by
    show updB (cpyN n f g) n (f n) i = _
    by_cases e : i = n
    · subst e; rw [updB_eq, if_pos (Nat.lt_succ_self _)]
    · rw [updB_ne e, cpyN_get f g n i]
      by_cases y : i < n
      · rw [if_pos y, if_pos (by omega)]
      · rw [if_neg y, if_neg (by omega)]
/-- one watcher after the other -/
noncomputable def tryW (σ : MS) (f one seen : Nat) (t : TT) (n : Nat) : TT := fold (fun w s => cI (mayS σ s.1 w one) (tryT σ f (one + 1) (seen + 1) (updB s.1 one (nI w), s.2)) s) t n
theorem tryW_s (σ : MS) (f one seen : Nat) (t : TT) (n : Nat) : tryW σ f one seen t (n + 1) = cI (mayS σ (tryW σ f one seen t n).1 n one) (tryT σ f (one + 1) (seen + 1) (updB (tryW σ f one seen t n).1 one (nI n), (tryW σ f one seen t n).2)) (tryW σ f one seen t n) := rfl
theorem tryT_0 (σ : MS) (one seen : Nat) (t : TT) : tryT σ 0 one seen t = cI (nI seen + σ.1 60 - nI one ≤ t.2.2) t (t.1, cpyN (cn σ 60) t.1 t.2.1, nI seen) := rfl
theorem tryT_s (σ : MS) (f one seen : Nat) (t : TT) : tryT σ (f + 1) one seen t = cI (nI seen + σ.1 60 - nI one ≤ t.2.2) t (tryT σ f (one + 1) seen (updB (tryW σ f one seen t (cn σ 59)).1 one (-1), (tryW σ f one seen t (cn σ 59)).2)) := rfl
theorem tryT_ind (σ : MS) : ∀ (f one seen : Nat) (t t' : TT), one + f = cn σ 60 → TE σ one t t' → TE σ one (tryT σ f one seen t) (tryT σ f one seen t')
  | 0, one, seen, t, t', ho, h => by
    rw [tryT_0, tryT_0, ← h.2.1]
    by_cases z : nI seen + σ.1 60 - nI one ≤ t.2.2
    · rw [cI_t z, cI_t z]; exact h
    · rw [cI_f z, cI_f z]
      refine ⟨h.1, rfl, fun _ i hi => ?_⟩
      show cpyN (cn σ 60) t.1 t.2.1 i = cpyN (cn σ 60) t'.1 t'.2.1 i
      rw [cpyN_get, cpyN_get, if_pos hi, if_pos hi]
      exact h.1 i (by omega)
  | f + 1, one, seen, t, t', ho, h => by
    rw [tryT_s, tryT_s, ← h.2.1]
    by_cases z : nI seen + σ.1 60 - nI one ≤ t.2.2
    · rw [cI_t z, cI_t z]; exact h
    · rw [cI_f z, cI_f z]
      have hW : ∀ n, TE σ one (tryW σ f one seen t n) (tryW σ f one seen t' n) := by
        intro n
        induction n with
        | zero => exact h
        | succ n ih =>
          rw [tryW_s, tryW_s]
          have hm := mayS_c (σ := σ) (w := n) ih.1
          by_cases y : mayS σ (tryW σ f one seen t n).1 n one
          · rw [cI_t y, cI_t (hm.mp y)]
            exact (tryT_ind σ f (one + 1) (seen + 1) _ _ (by omega) (ih.up (nI n))).lo (Nat.le_succ _)
          · rw [cI_f y, cI_f (fun w => y (hm.mpr w))]
            exact ih
      exact (tryT_ind σ f (one + 1) seen _ _ (by omega) ((hW _).up (-1))).lo (Nat.le_succ _)
/-- whoever was seen once stays so -/
theorem tryT_st (σ : MS) : ∀ (f one seen : Nat) (t : TT), seen + f ≤ 100 → ¬ t.2.2 = -1 → ¬ (tryT σ f one seen t).2.2 = -1
  | 0, one, seen, t, hs, h => by
    rw [tryT_0]
    by_cases z : nI seen + σ.1 60 - nI one ≤ t.2.2
    · rw [cI_t z]; exact h
    · rw [cI_f z]; exact nI_n1 (by omega)
  | f + 1, one, seen, t, hs, h => by
    rw [tryT_s]
    by_cases z : nI seen + σ.1 60 - nI one ≤ t.2.2
    · rw [cI_t z]; exact h
    · rw [cI_f z]
      refine tryT_st σ f (one + 1) seen _ (by omega) ?_
      have hW : ∀ n, ¬ (tryW σ f one seen t n).2.2 = -1 := by
        intro n
        induction n with
        | zero => exact h
        | succ n ih =>
          rw [tryW_s]
          by_cases y : mayS σ (tryW σ f one seen t n).1 n one
          · rw [cI_t y]; exact tryT_st σ f (one + 1) (seen + 1) _ (by omega) ih
          · rw [cI_f y]; exact ih
      exact hW _
theorem tryT_ne (σ : MS) (h60 : σ.1 60 = nI (cn σ 60)) (hn : cn σ 60 ≤ 8) : ∀ (f one seen : Nat) (t : TT), one + f = cn σ 60 → seen ≤ one → t.2.2 = -1 → ¬ (tryT σ f one seen t).2.2 = -1
  | 0, one, seen, t, ho, hs, h => by
    have z : ¬ nI seen + σ.1 60 - nI one ≤ t.2.2 := by
      rw [h, h60, nI_add, pk_sub (by omega)]
      intro y
      exact absurd (Int32.le_trans (nI_pos' (n := seen + cn σ 60 - one) (by omega)) y) (by decide)
    rw [tryT_0, cI_f z]; exact nI_n1 (by omega)
  | f + 1, one, seen, t, ho, hs, h => by
    have z : ¬ nI seen + σ.1 60 - nI one ≤ t.2.2 := by
      rw [h, h60, nI_add, pk_sub (by omega)]
      intro y
      exact absurd (Int32.le_trans (nI_pos' (n := seen + cn σ 60 - one) (by omega)) y) (by decide)
    rw [tryT_s, cI_f z]
    by_cases y : (tryW σ f one seen t (cn σ 59)).2.2 = -1
    · exact tryT_ne σ h60 hn f (one + 1) seen _ (by omega) (by omega) y
    · exact tryT_st σ f (one + 1) seen _ (by omega) y
def kT (κ : MS) : TT := (κ.2 24, κ.2 25, κ.1 98)
def KB (κ κ' : MS) : Prop := (∀ k, ¬ k = 98 → κ'.1 k = κ.1 k) ∧ ∀ r, ¬ r = 24 → ¬ r = 25 → κ'.2 r = κ.2 r
theorem KB.rf {κ : MS} : KB κ κ := ⟨fun _ _ => rfl, fun _ _ _ => rfl⟩
theorem KB.tr {a b c : MS} (h1 : KB a b) (h2 : KB b c) : KB a c := ⟨fun k x => (h2.1 k x).trans (h1.1 k x), fun k x y => (h2.2 k x y).trans (h1.2 k x y)⟩
theorem KB.a {κ κ' : MS} {i : Nat} {v : Int32} (h : KB κ κ') : KB κ (seta κ' 24 i v) := ⟨h.1, fun k h1 h2 => (seta_ne h1).trans (h.2 k h1 h2)⟩
theorem TabK_KB {σ κ κ' : MS} (h : KB κ κ') (hK : TabK σ κ) : TabK σ κ' := by
  obtain ⟨t1, t2, t3, t4⟩ := hK
  unfold TabK
  rw [h.1 92 (by decide), h.1 95 (by decide), h.2 20 (by decide) (by decide), h.2 21 (by decide) (by decide), h.2 22 (by decide) (by decide), h.2 23 (by decide) (by decide)]
  exact ⟨t1, t2, t3, t4⟩
/-- a whole row anew -/
def setR (κ : MS) (r : Nat) (f : Nat → Int32) : MS := (κ.1, fun j => bif Nat.beq j r then f else κ.2 j)
theorem setR_eq {κ : MS} {r : Nat} {f : Nat → Int32} : (setR κ r f).2 r = f := by
  show (bif Nat.beq r r then f else κ.2 r) = f
  rw [Nat.beq_refl]; rfl
theorem setR_ne {κ : MS} {r j : Nat} {f : Nat → Int32} (h : ¬ j = r) : (setR κ r f).2 j = κ.2 j := by
  show (bif Nat.beq j r then f else κ.2 j) = κ.2 j
  rw [beq_f h]; rfl
theorem cm_setR {τ : Nat → Nat} {κ : MS} {Md : Mem} (hi : adOK τ) {r c n : Nat} {f : Nat → Int32} (h : mFind kArr r = some (c, n)) (hr : kRow r = true) : mset (cm τ κ Md) (τ r) (c, n, fun i => .int (f i)) = cm τ (setR κ r f) Md := by
  refine cm_upd hi h ?_ (fun j hj => ?_)
  · rw [kV_row hr, setR_eq]
  · have e := setR_ne (κ := κ) (f := f) hj
    unfold kV
    split <;> first | rfl | (funext x; rw [e])
/-- the hours are hours -/
def HoB (σ : MS) : Prop := ∀ i, i < cn σ 60 → 0 ≤ σ.2 56 i ∧ σ.2 56 i ≤ 23
theorem clash_iff {σ : MS} (hH : HoB σ) {a b : Nat} (ha : a < cn σ 60) (hb : b < cn σ 60) : clash σ a b ↔ iabs (σ.2 56 a - σ.2 56 b) < (if σ.2 55 a = σ.2 55 b then 1 else 2) := by
  obtain ⟨h1, h2⟩ := hH a ha
  obtain ⟨h3, h4⟩ := hH b hb
  rw [Int32.le_iff_toInt_le] at h1 h2 h3 h4
  have e0 : (0 : Int32).toInt = 0 := rfl
  have e1 : (1 : Int32).toInt = 1 := rfl
  have e2 : (2 : Int32).toInt = 2 := rfl
  have e23 : (23 : Int32).toInt = 23 := rfl
  rw [e0] at h1 h3
  rw [e23] at h2 h4
  have hs : (σ.2 56 a - σ.2 56 b).toInt = (σ.2 56 a).toInt - (σ.2 56 b).toInt := i_sub (by omega)
  have hge : 0 ≤ (iabs (σ.2 56 a - σ.2 56 b)).toInt := by
    unfold iabs
    by_cases z : 0 ≤ σ.2 56 a - σ.2 56 b
    · rw [if_pos z]; exact Int32.le_iff_toInt_le.mp z
    · rw [if_neg z, Int32.toInt_neg, hs, bm32 (by omega)]
      rw [Int32.le_iff_toInt_le, hs, e0] at z
      omega
  unfold clash
  generalize iabs (σ.2 56 a - σ.2 56 b) = x at hge ⊢
  have ex : x = 0 ↔ x.toInt = 0 := by rw [← Int32.toInt_inj]; rfl
  by_cases z : σ.2 55 a = σ.2 55 b
  · rw [if_pos z]; simp only [Int32.lt_iff_toInt_lt, e1, e2, ex]
    constructor
    · rintro (y | y)
      · omega
      · exact absurd z y.2
    · intro y; exact Or.inl (by omega)
  · rw [if_neg z]; simp only [Int32.lt_iff_toInt_lt, e2, ex]
    constructor
    · rintro (y | y)
      · omega
      · exact y.1
    · intro y; exact Or.inr ⟨y, z⟩
section CLJ
variable {G : Gam} {d : Nat} {τ : Nat → Nat} {ω : Nat → Nat → Nat} {ε : Nat → Nat} {σ κ : MS} {Md : Mem} {M : Mem} {Q : Option Value → Mem → Prop} {k : Nat}
theorem c_X8_canBothBeSeen {a b : Nat} (hi : adOK τ) (hc : Cnt σ) (hT : TabK σ κ) (hH : HoB σ) (ha : a < cn σ 60) (hb : b < cn σ 60) (hq : Q (some (.int (bI (¬ clash σ a b)))) (cm τ κ Md)) : CT G (d + 1) (0, 0) MX8_canBothBeSeen [.ref (τ 9), .int (nI a), .int (nI b)] (cm τ κ Md) Q := by
  have h8 := (hc.b 60 (b := 8) (by decide)).2
  have hcla : (nI a).toNatClampNeg = a := nI_clamp (by omega)
  have hclb : (nI b).toNatClampNeg = b := nI_clamp (by omega)
  have hcl := clash_iff hH ha hb
  obtain ⟨a1, a2⟩ := hT.2.2.2 a ha
  obtain ⟨b1, b2⟩ := hT.2.2.2 b hb
  refine CT.of rfl (Nat.le_of_ble_eq_true rfl) ?_
  refine x_aload_n dX8_canBothBeSeen_0 rfl rfl ?_
  refine x_getf dX8_canBothBeSeen_1 lf_X8_21 (kc hi kf_9) kv_9_4 ?_
  refine x_iload_n dX8_canBothBeSeen_4 rfl rfl ?_
  refine xk_iald 23 dX8_canBothBeSeen_5 kf_23 rfl hi (vp_in_nI (by omega) (by decide)) hcla ?_
  rw [a2]
  refine x_aload_n dX8_canBothBeSeen_6 rfl rfl ?_
  refine x_getf dX8_canBothBeSeen_7 lf_X8_21 (kc hi kf_9) kv_9_4 ?_
  refine x_iload_n dX8_canBothBeSeen_10 rfl rfl ?_
  refine xk_iald 23 dX8_canBothBeSeen_11 kf_23 rfl hi (vp_in_nI (by omega) (by decide)) hclb ?_
  rw [b2]
  refine x_isub dX8_canBothBeSeen_12 ?_
  refine x_cS1 dX8_canBothBeSeen_13 ls_X8_64 rfl  (c_J9_abs_0f7a4 ?_)
  refine x_istore_n dX8_canBothBeSeen_16 rfl (by decide) ?_
  refine x_iload_n dX8_canBothBeSeen_17 rfl rfl ?_
  refine x_aload_n dX8_canBothBeSeen_18 rfl rfl ?_
  refine x_getf dX8_canBothBeSeen_19 lf_X8_18 (kc hi kf_9) kv_9_3 ?_
  refine x_iload_n dX8_canBothBeSeen_22 rfl rfl ?_
  refine xk_iald 22 dX8_canBothBeSeen_23 kf_22 rfl hi (vp_in_nI (by omega) (by decide)) hcla ?_
  rw [a1]
  refine x_aload_n dX8_canBothBeSeen_24 rfl rfl ?_
  refine x_getf dX8_canBothBeSeen_25 lf_X8_18 (kc hi kf_9) kv_9_3 ?_
  refine x_iload_n dX8_canBothBeSeen_28 rfl rfl ?_
  refine xk_iald 22 dX8_canBothBeSeen_29 kf_22 rfl hi (vp_in_nI (by omega) (by decide)) hclb ?_
  rw [b1]
  refine x_icmp_ne (tgt := 37) dX8_canBothBeSeen_30 (by decide) (fun h30 => ?_) (fun h30 => ?_)
  · refine x_iconst (v := 2) dX8_canBothBeSeen_37 (by decide) ?_
    refine x_icmp_lt (tgt := 45) dX8_canBothBeSeen_38 (by decide) (fun h38 => ?_) (fun h38 => ?_)
    · refine x_iconst (v := 0) dX8_canBothBeSeen_45 (by decide) ?_
      exact x_ireturn dX8_canBothBeSeen_46 rfl rfl (fin hq (by
first
| exact bI_f (fun z => z (hcl.mpr (by rw [if_neg h30]; exact h38)))
| exact bI_t (fun z => h38 (by have := hcl.mp z; rw [if_neg h30] at this; exact this))
| exact bI_f (fun z => z (hcl.mpr (by rw [if_pos (by first | exact h30 | exact Classical.byContradiction h30)]; exact h38)))
| exact bI_t (fun z => h38 (by have := hcl.mp z; rw [if_pos (by first | exact h30 | exact Classical.byContradiction h30)] at this; exact this))))
    · refine x_iconst (v := 1) dX8_canBothBeSeen_41 (by decide) ?_
      refine x_goto (tgt := 46) dX8_canBothBeSeen_42 (by decide) ?_
      exact x_ireturn dX8_canBothBeSeen_46 rfl rfl (fin hq (by
first
| exact bI_f (fun z => z (hcl.mpr (by rw [if_neg h30]; exact h38)))
| exact bI_t (fun z => h38 (by have := hcl.mp z; rw [if_neg h30] at this; exact this))
| exact bI_f (fun z => z (hcl.mpr (by rw [if_pos (by first | exact h30 | exact Classical.byContradiction h30)]; exact h38)))
| exact bI_t (fun z => h38 (by have := hcl.mp z; rw [if_pos (by first | exact h30 | exact Classical.byContradiction h30)] at this; exact this))))
  · refine x_iconst (v := 1) dX8_canBothBeSeen_33 (by decide) ?_
    refine x_goto (tgt := 38) dX8_canBothBeSeen_34 (by decide) ?_
    refine x_icmp_lt (tgt := 45) dX8_canBothBeSeen_38 (by decide) (fun h38 => ?_) (fun h38 => ?_)
    · refine x_iconst (v := 0) dX8_canBothBeSeen_45 (by decide) ?_
      exact x_ireturn dX8_canBothBeSeen_46 rfl rfl (fin hq (by
first
| exact bI_f (fun z => z (hcl.mpr (by rw [if_neg h30]; exact h38)))
| exact bI_t (fun z => h38 (by have := hcl.mp z; rw [if_neg h30] at this; exact this))
| exact bI_f (fun z => z (hcl.mpr (by rw [if_pos (by first | exact h30 | exact Classical.byContradiction h30)]; exact h38)))
| exact bI_t (fun z => h38 (by have := hcl.mp z; rw [if_pos (by first | exact h30 | exact Classical.byContradiction h30)] at this; exact this))))
    · refine x_iconst (v := 1) dX8_canBothBeSeen_41 (by decide) ?_
      refine x_goto (tgt := 46) dX8_canBothBeSeen_42 (by decide) ?_
      exact x_ireturn dX8_canBothBeSeen_46 rfl rfl (fin hq (by
first
| exact bI_f (fun z => z (hcl.mpr (by rw [if_neg h30]; exact h38)))
| exact bI_t (fun z => h38 (by have := hcl.mp z; rw [if_neg h30] at this; exact this))
| exact bI_f (fun z => z (hcl.mpr (by rw [if_pos (by first | exact h30 | exact Classical.byContradiction h30)]; exact h38)))
| exact bI_t (fun z => h38 (by have := hcl.mp z; rw [if_pos (by first | exact h30 | exact Classical.byContradiction h30)] at this; exact this))))
theorem c_X8_canSee {w one : Nat} (hi : adOK τ) (hc : Cnt σ) (hT : TabK σ κ) (hH : HoB σ) (hw : w < cn σ 59) (ho : one < cn σ 60) (hq : Q (some (.int (bI (mayS σ (κ.2 24) w one)))) (cm τ κ Md)) : CT G (d + 2) (0, 0) MX8_canSee [.ref (τ 9), .int (nI w), .int (nI one)] (cm τ κ Md) Q := by
  have h8 := (hc.b 60 (b := 8) (by decide)).2
  have h4 := (hc.b 59 (b := 4) (by decide)).2
  have hclw : (nI w).toNatClampNeg = w := nI_clamp (by omega)
  have hclo : (nI one).toNatClampNeg = one := nI_clamp (by omega)
  obtain ⟨a1, a2⟩ := hT.2.2.2 one ho
  obtain ⟨b1, b2⟩ := hT.2.2.1 w hw
  refine CT.of rfl (Nat.le_of_ble_eq_true rfl) ?_
  refine x_aload_n dX8_canSee_0 rfl rfl ?_
  refine x_getf dX8_canSee_1 lf_X8_21 (kc hi kf_9) kv_9_4 ?_
  refine x_iload_n dX8_canSee_4 rfl rfl ?_
  refine xk_iald 23 dX8_canSee_5 kf_23 rfl hi (vp_in_nI (by omega) (by decide)) hclo ?_
  rw [a2]
  refine x_aload_n dX8_canSee_6 rfl rfl ?_
  refine x_getf dX8_canSee_7 lf_X8_11 (kc hi kf_9) kv_9_0 ?_
  refine x_iload_n dX8_canSee_10 rfl rfl ?_
  refine xk_iald 20 dX8_canSee_11 kf_20 rfl hi (vp_in_nI (by omega) (by decide)) hclw ?_
  rw [b1]
  refine x_aload_n dX8_canSee_12 rfl rfl ?_
  refine x_getf dX8_canSee_13 lf_X8_15 (kc hi kf_9) kv_9_1 ?_
  refine x_iload_n dX8_canSee_16 rfl rfl ?_
  refine xk_iald 21 dX8_canSee_17 kf_21 rfl hi (vp_in_nI (by omega) (by decide)) hclw ?_
  rw [b2]
  refine x_cSN3 dX8_canSee_18 ls_X8_40 rfl  (c_X11_isWithin ?_)
  refine x_if_ne_b (tgt := 26) dX8_canSee_21 (by decide) (fun h21 => ?_) (fun h21 => ?_)
  · refine x_iconst (v := 0) dX8_canSee_26 (by decide) ?_
    refine x_istore_n dX8_canSee_27 rfl (by decide) ?_
    refine x_loc [(0, .ref (τ 9)), (1, .int (nI w)), (2, .int (nI one)), (3, .int (nI 0))] ⟨rfl, rfl, rfl, rfl, trivial⟩ ?_
    suffices H : ∀ f i, i + f = one → (∀ k, k < i → ¬ (κ.2 24 k = nI w ∧ clash σ one k)) → XJ G (d + 2) (0, 0) MX8_canSee (cm τ κ Md) [(0, .ref (τ 9)), (1, .int (nI w)), (2, .int (nI one)), (3, .int (nI i))] [] 28 Q from H one 0 (by omega) (fun k hk => absurd hk (Nat.not_lt_zero k))
    intro f
    induction f with
    | zero =>
      intro i hif hall
      obtain rfl : i = one := by omega
      refine x_iload_n dX8_canSee_28 rfl rfl ?_
      refine x_iload_n dX8_canSee_29 rfl rfl ?_
      refine x_icmp_ge (tgt := 60) dX8_canSee_30 (by decide) (fun _ => ?_) (fun z => absurd (Int32.le_refl _) z)
      refine x_iconst (v := 1) dX8_canSee_60 (by decide) ?_
      exact x_ireturn dX8_canSee_61 rfl rfl (fin hq (bI_t ⟨h21, hall⟩))
    | succ f ih =>
      intro i hif hall
      have hlt : i < one := by omega
      have hcli : (nI i).toNatClampNeg = i := nI_clamp (by omega)
      have hst : ¬ (κ.2 24 i = nI w ∧ clash σ one i) → XJ G (d + 2) (0, 0) MX8_canSee (cm τ κ Md) [(0, .ref (τ 9)), (1, .int (nI w)), (2, .int (nI one)), (3, .int (nI i))] [] 54 Q := by
        intro hno
        refine x_iinc (c := 1) dX8_canSee_54 rfl (by decide) ?_
        refine x_goto (tgt := 28) dX8_canSee_57 (by decide) ?_
        refine x_loc _ (?_ : lle _ _) (ih (i + 1) (by omega) (fun k hk => ?_))
        · refine ⟨rfl, rfl, rfl, ?_, trivial⟩
          show some (Value.int (nI i + 1)) = some (Value.int (nI (i + 1)))
          rw [nI_1]
        · by_cases e : k = i
          · subst e; exact hno
          · exact hall k (by omega)
      refine x_iload_n dX8_canSee_28 rfl rfl ?_
      refine x_iload_n dX8_canSee_29 rfl rfl ?_
      refine x_icmp_ge (tgt := 60) dX8_canSee_30 (by decide) (fun z => absurd z (nI_ge hlt (by omega))) (fun _ => ?_)
      refine x_aload_n dX8_canSee_33 rfl rfl ?_
      refine x_getf dX8_canSee_34 lf_X8_24 (kc hi kf_9) kv_9_6 ?_
      refine x_iload_n dX8_canSee_37 rfl rfl ?_
      refine xk_iald 24 dX8_canSee_38 kf_24 rfl hi (vp_in_nI (by omega) (by decide)) hcli ?_
      refine x_iload_n dX8_canSee_39 rfl rfl ?_
      refine x_icmp_ne (tgt := 54) dX8_canSee_40 (by decide) (fun h40 => ?_) (fun h40 => ?_)
      · refine x_loc _ (?_ : lle _ _) (hst (fun z => by first | exact h40 z.1 | exact h49 z.2))
        exact ⟨rfl, rfl, rfl, rfl, trivial⟩
      · refine x_aload_n dX8_canSee_43 rfl rfl ?_
        refine x_iload_n dX8_canSee_44 rfl rfl ?_
        refine x_iload_n dX8_canSee_45 rfl rfl ?_
        refine x_cV2 dX8_canSee_46 lv_X8_61 (kc hi kf_9) rfl rfl rfl  (c_X8_canBothBeSeen hi hc hT hH ho (by omega) ?_)
        refine x_if_ne_b (tgt := 54) dX8_canSee_49 (by decide) (fun h49 => ?_) (fun h49 => ?_)
        · refine x_loc _ (?_ : lle _ _) (hst (fun z => by first | exact h40 z.1 | exact h49 z.2))
          exact ⟨rfl, rfl, rfl, rfl, trivial⟩
        · refine x_iconst (v := 0) dX8_canSee_52 (by decide) ?_
          exact x_ireturn dX8_canSee_53 rfl rfl (fin hq (bI_f (fun z => z.2 i hlt ⟨h40, Classical.byContradiction h49⟩)))
  · refine x_iconst (v := 0) dX8_canSee_24 (by decide) ?_
    exact x_ireturn dX8_canSee_25 rfl rfl (fin hq (bI_f (fun z => h21 z.1)))
theorem c_X8_tryFrom (hi : adOK τ) (hc : Cnt σ) (hH : HoB σ) : ∀ (f one seen : Nat) (κ : MS) (t : TT) (Q : Option Value → Mem → Prop) (d : Nat), one + f = cn σ 60 → seen ≤ one → TabK σ κ → TE σ one (kT κ) t → (∀ κ', KB κ κ' → TE σ one (kT κ') (tryT σ f one seen t) → Q none (cm τ κ' Md)) → CT G (d + f + 3) (0, 0) MX8_tryFrom [.ref (τ 9), .int (nI one), .int (nI seen)] (cm τ κ Md) Q := by
  obtain ⟨h8a, h8⟩ := hc.b 60 (b := 8) (by decide)
  obtain ⟨h4a, h4⟩ := hc.b 59 (b := 4) (by decide)
  intro f
  induction f with
  | zero =>
    intro one seen κ t Q d hf hs hT hE hq
    have h98 : κ.1 98 = t.2.2 := hE.2.1
    rw [tryT_0] at hq
    refine CT.of rfl (Nat.le_of_ble_eq_true rfl) ?_
    by_cases zz : nI seen + σ.1 60 - nI one ≤ t.2.2
    · rw [cI_t zz] at hq
      refine x_iload_n dX8_tryFrom_0 rfl rfl ?_
      refine x_bipush (v := 8) dX8_tryFrom_1 (by decide) ?_
      refine x_icmp_gt (tgt := 21) dX8_tryFrom_3 (by decide) (fun z => absurd z (Int32.not_lt.mpr (nI_le (b := 8) (by omega) (by decide)))) (fun _ => ?_)
      refine x_iload_n dX8_tryFrom_6 rfl rfl ?_
      refine x_aload_n dX8_tryFrom_7 rfl rfl ?_
      refine x_getf dX8_tryFrom_8 lf_X8_34 (kc hi kf_9) kv_9_5 ?_
      rw [hT.2.1]
      refine x_iadd dX8_tryFrom_11 ?_
      refine x_iload_n dX8_tryFrom_12 rfl rfl ?_
      refine x_isub dX8_tryFrom_13 ?_
      refine x_aload_n dX8_tryFrom_14 rfl rfl ?_
      refine x_getf dX8_tryFrom_15 lf_X8_37 (kc hi kf_9) kv_9_8 ?_
      rw [h98]
      refine x_icmp_gt (tgt := 22) dX8_tryFrom_18 (by decide) (fun z => absurd z (Int32.not_lt.mpr zz)) (fun _ => ?_)
      exact x_return dX8_tryFrom_21 rfl (hq κ KB.rf hE)
    · rw [cI_f zz] at hq
      have hM1 : ∀ κ : MS, cm τ κ Md (τ 24) = some (100, 8, fun i => .int (κ.2 24 i)) := fun κ => by rw [kc hi kf_24, kV_row rfl]
      have hM2 : ∀ κ : MS, cm τ κ Md (τ 25) = some (100, 8, fun i => .int (κ.2 25 i)) := fun κ => by rw [kc hi kf_25, kV_row rfl]
      refine x_iload_n dX8_tryFrom_0 rfl rfl ?_
      refine x_bipush (v := 8) dX8_tryFrom_1 (by decide) ?_
      refine x_icmp_gt (tgt := 21) dX8_tryFrom_3 (by decide) (fun z => absurd z (Int32.not_lt.mpr (nI_le (b := 8) (by omega) (by decide)))) (fun _ => ?_)
      refine x_iload_n dX8_tryFrom_6 rfl rfl ?_
      refine x_aload_n dX8_tryFrom_7 rfl rfl ?_
      refine x_getf dX8_tryFrom_8 lf_X8_34 (kc hi kf_9) kv_9_5 ?_
      rw [hT.2.1]
      refine x_iadd dX8_tryFrom_11 ?_
      refine x_iload_n dX8_tryFrom_12 rfl rfl ?_
      refine x_isub dX8_tryFrom_13 ?_
      refine x_aload_n dX8_tryFrom_14 rfl rfl ?_
      refine x_getf dX8_tryFrom_15 lf_X8_37 (kc hi kf_9) kv_9_8 ?_
      rw [h98]
      refine x_icmp_gt (tgt := 22) dX8_tryFrom_18 (by decide) (fun _ => ?_) (fun z => absurd (Int32.not_le.mp zz) z)
      refine x_iload_n dX8_tryFrom_22 rfl rfl ?_
      refine x_aload_n dX8_tryFrom_23 rfl rfl ?_
      refine x_getf dX8_tryFrom_24 lf_X8_34 (kc hi kf_9) kv_9_5 ?_
      rw [hT.2.1]
      refine x_icmp_lt (tgt := 51) dX8_tryFrom_27 (by decide) (fun z => absurd z (by rw [h8a]; exact Int32.not_lt.mpr (nI_le (by omega) (by omega)))) (fun _ => ?_)
      refine x_aload_n dX8_tryFrom_30 rfl rfl ?_
      refine x_iload_n dX8_tryFrom_31 rfl rfl ?_
      refine xk_puti dX8_tryFrom_32 lp_X8_37 (kc hi kf_9) rfl rfl (kp_9_8 hi) ?_
      refine x_aload_n dX8_tryFrom_35 rfl rfl ?_
      refine x_getf dX8_tryFrom_36 lf_X8_24 (kc hi kf_9) kv_9_6 ?_
      refine x_iconst (v := 0) dX8_tryFrom_39 (by decide) ?_
      refine x_aload_n dX8_tryFrom_40 rfl rfl ?_
      refine x_getf dX8_tryFrom_41 lf_X8_27 (kc hi kf_9) kv_9_7 ?_
      refine x_iconst (v := 0) dX8_tryFrom_44 (by decide) ?_
      refine x_bipush (v := 8) dX8_tryFrom_45 (by decide) ?_
      refine x_copyI (sp := 0) (dp := 0) (n := 8) dX8_tryFrom_47 tb967 tb323 tb322 tb15 (hM1 _) (hM2 _) (by decide) (by decide) (by decide) (by decide) (by decide) rfl ?_
      rw [cm_setR hi kf_25 rfl]
      exact x_return dX8_tryFrom_50 rfl (by
refine hq _ ⟨fun k hk => seti_ne hk, fun r h1 h2 => setR_ne h2⟩ ⟨fun i hi2 => ?_, ?_, fun _ i hi2 => ?_⟩
· exact hE.1 i hi2
· exact updB_eq (f := κ.1) (k := 98)
· show va_cpy (κ.2 24) (κ.2 25) 0 0 8 i = cpyN (cn σ 60) t.1 t.2.1 i
  rw [cpyN_get, if_pos hi2]
  unfold va_cpy
  rw [if_pos (by omega), show 0 + (i - 0) = i by omega]
  exact hE.1 i (by omega))
  | succ f ihf =>
    intro one seen κ t Q d hf hs hT hE hq
    have h98 : κ.1 98 = t.2.2 := hE.2.1
    have hone : one < cn σ 60 := by omega
    have hclo : (nI one).toNatClampNeg = one := nI_clamp (by omega)
    rw [tryT_s] at hq
    refine CT.of rfl (Nat.le_of_ble_eq_true rfl) ?_
    by_cases zz : nI seen + σ.1 60 - nI one ≤ t.2.2
    · rw [cI_t zz] at hq
      refine x_iload_n dX8_tryFrom_0 rfl rfl ?_
      refine x_bipush (v := 8) dX8_tryFrom_1 (by decide) ?_
      refine x_icmp_gt (tgt := 21) dX8_tryFrom_3 (by decide) (fun z => absurd z (Int32.not_lt.mpr (nI_le (b := 8) (by omega) (by decide)))) (fun _ => ?_)
      refine x_iload_n dX8_tryFrom_6 rfl rfl ?_
      refine x_aload_n dX8_tryFrom_7 rfl rfl ?_
      refine x_getf dX8_tryFrom_8 lf_X8_34 (kc hi kf_9) kv_9_5 ?_
      rw [hT.2.1]
      refine x_iadd dX8_tryFrom_11 ?_
      refine x_iload_n dX8_tryFrom_12 rfl rfl ?_
      refine x_isub dX8_tryFrom_13 ?_
      refine x_aload_n dX8_tryFrom_14 rfl rfl ?_
      refine x_getf dX8_tryFrom_15 lf_X8_37 (kc hi kf_9) kv_9_8 ?_
      rw [h98]
      refine x_icmp_gt (tgt := 22) dX8_tryFrom_18 (by decide) (fun z => absurd z (Int32.not_lt.mpr zz)) (fun _ => ?_)
      exact x_return dX8_tryFrom_21 rfl (hq κ KB.rf hE)
    · rw [cI_f zz] at hq
      have hup : ∀ (κ2 : MS) (v : Int32), kT (seta κ2 24 one v) = (updB (κ2.2 24) one v, (kT κ2).2) := fun κ2 v => by
        unfold kT
        rw [seta_eq, seta_ne (by decide)]
        rfl
      have H : ∀ g w κ2, w + g = cn σ 59 → KB κ κ2 → TE σ one (kT κ2) (tryW σ f one seen t w) → XJ G (d + (f + 1) + 3) (0, 0) MX8_tryFrom (cm τ κ2 Md) [(0, .ref (τ 9)), (1, .int (nI one)), (2, .int (nI seen)), (3, .int (nI w))] [] 53 Q := by
        intro g
        induction g with
        | zero =>
          intro w κ2 hwg hk2 hE2
          obtain rfl : w = cn σ 59 := by omega
          have hT2 := TabK_KB hk2 hT
          refine x_iload_n dX8_tryFrom_53 rfl rfl ?_
          refine x_aload_n dX8_tryFrom_54 rfl rfl ?_
          refine x_getf dX8_tryFrom_55 lf_X8_30 (kc hi kf_9) kv_9_2 ?_
          rw [hT2.1]
          refine x_icmp_ge (tgt := 93) dX8_tryFrom_58 (by decide) (fun _ => ?_) (fun z => absurd (by rw [h4a]; exact Int32.le_refl _) z)
          refine x_aload_n dX8_tryFrom_93 rfl rfl ?_
          refine x_getf dX8_tryFrom_94 lf_X8_24 (kc hi kf_9) kv_9_6 ?_
          refine x_iload_n dX8_tryFrom_97 rfl rfl ?_
          refine x_iconst (v := -1) dX8_tryFrom_98 (by decide) ?_
          refine xk_iast 24 dX8_tryFrom_99 kf_24 rfl hi (vp_in_nI (by omega) (by decide)) hclo ?_
          refine x_aload_n dX8_tryFrom_100 rfl rfl ?_
          refine x_iload_n dX8_tryFrom_101 rfl rfl ?_
          refine x_iconst (v := 1) dX8_tryFrom_102 (by decide) ?_
          refine x_iadd dX8_tryFrom_103 ?_
          rw [nI_1]
          refine x_iload_n dX8_tryFrom_104 rfl rfl ?_
          refine x_cS3 dX8_tryFrom_105 ls_X8_47 rfl  (ihf (one + 1) seen _ (updB (tryW σ f one seen t (cn σ 59)).1 one (-1), (tryW σ f one seen t (cn σ 59)).2) _ d (by omega) (by omega) (TabK_KB KB.rf.a hT2) (by rw [hup]; exact hE2.up (-1)) ?_)
          intro κ3 hk3 hE3
          exact x_return dX8_tryFrom_108 rfl (hq κ3 ((hk2.a).tr hk3) (hE3.lo (Nat.le_succ _)))
        | succ g ihg =>
          intro w κ2 hwg hk2 hE2
          have hlt : w < cn σ 59 := by omega
          have hT2 := TabK_KB hk2 hT
          have hm := mayS_c (σ := σ) (w := w) hE2.1
          have hst : ∀ κ3, KB κ κ3 → TE σ one (kT κ3) (tryW σ f one seen t (w + 1)) → XJ G (d + (f + 1) + 3) (0, 0) MX8_tryFrom (cm τ κ3 Md) [(0, .ref (τ 9)), (1, .int (nI one)), (2, .int (nI seen)), (3, .int (nI w))] [] 87 Q := by
            intro κ3 hk3 hE3
            refine x_iinc (c := 1) dX8_tryFrom_87 rfl (by decide) ?_
            refine x_goto (tgt := 53) dX8_tryFrom_90 (by decide) ?_
            refine x_loc _ (?_ : lle _ _) (ihg (w + 1) κ3 (by omega) hk3 hE3)
            refine ⟨rfl, rfl, rfl, ?_, trivial⟩
            show some (Value.int (nI w + 1)) = some (Value.int (nI (w + 1)))
            rw [nI_1]
          refine x_iload_n dX8_tryFrom_53 rfl rfl ?_
          refine x_aload_n dX8_tryFrom_54 rfl rfl ?_
          refine x_getf dX8_tryFrom_55 lf_X8_30 (kc hi kf_9) kv_9_2 ?_
          rw [hT2.1]
          refine x_icmp_ge (tgt := 93) dX8_tryFrom_58 (by decide) (fun z => absurd z (by rw [h4a]; exact nI_ge hlt (by omega))) (fun _ => ?_)
          refine x_aload_n dX8_tryFrom_61 rfl rfl ?_
          refine x_iload_n dX8_tryFrom_62 rfl rfl ?_
          refine x_iload_n dX8_tryFrom_63 rfl rfl ?_
          refine x_cV2 dX8_tryFrom_64 lv_X8_57 (kc hi kf_9) rfl rfl rfl  (c_X8_canSee hi hc hT2 hH hlt hone ?_)
          refine x_if_eq_b (tgt := 87) dX8_tryFrom_67 (by decide) (fun h67 => ?_) (fun h67 => ?_)
          · first
            | (intro κ3 hk3 hE3
               refine x_loc _ (?_ : lle _ _) (hst κ3 ((hk2.a).tr hk3) (by rw [tryW_s, cI_t (hm.mp h67)]; exact hE3.lo (Nat.le_succ _)))
               exact ⟨rfl, rfl, rfl, rfl, trivial⟩)
            | (refine x_loc _ (?_ : lle _ _) (hst κ2 hk2 (by rw [tryW_s, cI_f (fun y => h67 (hm.mpr y))]; exact hE2))
               exact ⟨rfl, rfl, rfl, rfl, trivial⟩)
          · refine x_aload_n dX8_tryFrom_70 rfl rfl ?_
            refine x_getf dX8_tryFrom_71 lf_X8_24 (kc hi kf_9) kv_9_6 ?_
            refine x_iload_n dX8_tryFrom_74 rfl rfl ?_
            refine x_iload_n dX8_tryFrom_75 rfl rfl ?_
            refine xk_iast 24 dX8_tryFrom_76 kf_24 rfl hi (vp_in_nI (by omega) (by decide)) hclo ?_
            refine x_aload_n dX8_tryFrom_77 rfl rfl ?_
            refine x_iload_n dX8_tryFrom_78 rfl rfl ?_
            refine x_iconst (v := 1) dX8_tryFrom_79 (by decide) ?_
            refine x_iadd dX8_tryFrom_80 ?_
            rw [nI_1]
            refine x_iload_n dX8_tryFrom_81 rfl rfl ?_
            refine x_iconst (v := 1) dX8_tryFrom_82 (by decide) ?_
            refine x_iadd dX8_tryFrom_83 ?_
            rw [nI_1]
            refine x_cS3 dX8_tryFrom_84 ls_X8_47 rfl  (ihf (one + 1) (seen + 1) _ (updB (tryW σ f one seen t w).1 one (nI w), (tryW σ f one seen t w).2) _ d (by omega) (by omega) (TabK_KB KB.rf.a hT2) (by rw [hup]; exact hE2.up (nI w)) ?_)
            first
            | (intro κ3 hk3 hE3
               refine x_loc _ (?_ : lle _ _) (hst κ3 ((hk2.a).tr hk3) (by rw [tryW_s, cI_t (hm.mp h67)]; exact hE3.lo (Nat.le_succ _)))
               exact ⟨rfl, rfl, rfl, rfl, trivial⟩)
            | (refine x_loc _ (?_ : lle _ _) (hst κ2 hk2 (by rw [tryW_s, cI_f (fun y => h67 (hm.mpr y))]; exact hE2))
               exact ⟨rfl, rfl, rfl, rfl, trivial⟩)
      refine x_iload_n dX8_tryFrom_0 rfl rfl ?_
      refine x_bipush (v := 8) dX8_tryFrom_1 (by decide) ?_
      refine x_icmp_gt (tgt := 21) dX8_tryFrom_3 (by decide) (fun z => absurd z (Int32.not_lt.mpr (nI_le (b := 8) (by omega) (by decide)))) (fun _ => ?_)
      refine x_iload_n dX8_tryFrom_6 rfl rfl ?_
      refine x_aload_n dX8_tryFrom_7 rfl rfl ?_
      refine x_getf dX8_tryFrom_8 lf_X8_34 (kc hi kf_9) kv_9_5 ?_
      rw [hT.2.1]
      refine x_iadd dX8_tryFrom_11 ?_
      refine x_iload_n dX8_tryFrom_12 rfl rfl ?_
      refine x_isub dX8_tryFrom_13 ?_
      refine x_aload_n dX8_tryFrom_14 rfl rfl ?_
      refine x_getf dX8_tryFrom_15 lf_X8_37 (kc hi kf_9) kv_9_8 ?_
      rw [h98]
      refine x_icmp_gt (tgt := 22) dX8_tryFrom_18 (by decide) (fun _ => ?_) (fun z => absurd (Int32.not_le.mp zz) z)
      refine x_iload_n dX8_tryFrom_22 rfl rfl ?_
      refine x_aload_n dX8_tryFrom_23 rfl rfl ?_
      refine x_getf dX8_tryFrom_24 lf_X8_34 (kc hi kf_9) kv_9_5 ?_
      rw [hT.2.1]
      refine x_icmp_lt (tgt := 51) dX8_tryFrom_27 (by decide) (fun _ => ?_) (fun z => absurd (by rw [h8a]; exact nI_lt hone (by omega)) z)
      refine x_iconst (v := 0) dX8_tryFrom_51 (by decide) ?_
      refine x_istore_n dX8_tryFrom_52 rfl (by decide) ?_
      refine x_loc _ (?_ : lle _ _) (H (cn σ 59) 0 κ (by omega) KB.rf hE)
      exact ⟨rfl, rfl, rfl, rfl, trivial⟩
end CLJ
